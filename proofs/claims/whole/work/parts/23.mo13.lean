/-- PULLEY -/
def sp_pl (many n pull rise men lat : Int32) : Int32 := if many < n then -100001 else n * pull + rise * men - lat
section MOD
variable {G : px_G} {D : Nat} {X E : px_H} {I : Nat → Int32} {A : Nat → Nat → Int32} {L : Nat → Nat → Int64} {Q : Option Value → px_H → Prop}
set_option maxRecDepth 4000 in
theorem c_Mo_best {n b : Nat} {ln : Nat → Nat} {cl : List sp_Cl} {x y : Int32} (hD : 8 ≤ D) (hw : mo_w I A n ln b cl) (hh : mo_h A) (e32 : I 32 = 9999) (kn : ¬ (0 ≤ y ∧ y ≤ 1) → Q (some (.int (-1))) (HM X I A L E)) (kb : (0 ≤ y ∧ y ≤ 1) → ¬ (1 ≤ x ∧ x ≤ 20) → Q (some (.int (-2))) (HM X I A L E)) (kk : (0 ≤ y ∧ y ≤ 1) → (1 ≤ x ∧ x ≤ 20) → ∀ nn, nn ≤ 20 → x = nI nn → ∀ (I' : Nat → Int32) (A' : Nat → Nat → Int32), ms [29, 30, 31, 33, 36, 37, 38] [28, 34, 35, 39] I I' A A' → Q (some (.int (if y = 0 then (sp_best (fun z => (sp_many (A 5, A 6, A 9, ln, n, cl) (I 2) (A 7) (A 8) (nn) (z) (0) (0))) (fun z => (sp_lat (A 5, A 6, A 9, ln, n, cl) (I 2) (A 7) (A 8) (nn) (z) (0) (0))) 99 1 (0, -1, 0)).1 else (sp_best (fun z => (sp_many (A 5, A 6, A 9, ln, n, cl) (I 2) (A 7) (A 8) (nn) (z) (0) (0))) (fun z => (sp_lat (A 5, A 6, A 9, ln, n, cl) (I 2) (A 7) (A 8) (nn) (z) (0) (0))) 99 1 (0, -1, 0)).2.1))) (HM X I' A' L E)) : px_W G D 0 0 m_Mo_best 0 (px_ent 8 [.ref X.length, .int x, .int y]) [] (HM X I A L E) Q := by
  show px_W _ _ _ _ _ _ [some (.ref X.length), some (.int x), some (.int y), none, none, none, none, none] [] _ _
  refine wp_aload_n d_Mo_best_0 rfl rfl rfl ?_
  refine wp_iload_n d_Mo_best_1 rfl rfl ?_
  refine wp_iconst (v := 0) d_Mo_best_2 rfl ?_
  refine wp_iconst (v := 1) d_Mo_best_3 rfl ?_
  refine wp_callV (r := (R_12, T_12, 70)) (M' := m_Mo_in) (as := [_, _, _]) (D' := D - 1) (C1 := 0) (C2 := 0) (S1 := 0) (S2 := 0) d_Mo_best_4 rfl w_1209 w_1211 w_15 hm_0 k_Mo_in (Nat.le_of_ble_eq_true rfl) rfl (Nat.le_of_ble_eq_true rfl) (by omega) rfl rfl ?_
  refine c_Mo_in (by omega)  (fun c_4 => ?_) (fun c_4 => ?_)
  · skip
    refine wp_if_ne (t := 12) d_Mo_best_7 (by decide) (fun c_7 => ?_) (fun c_7 => (absurd c_7 (by decide)))
    refine wp_aload_n d_Mo_best_12 rfl rfl rfl ?_
    refine wp_iload_n d_Mo_best_13 rfl rfl ?_
    refine wp_iconst (v := 1) d_Mo_best_14 rfl ?_
    refine wp_bipush (v := 20) d_Mo_best_15 (by decide) ?_
    refine wp_callV (r := (R_12, T_12, 70)) (M' := m_Mo_in) (as := [_, _, _]) (D' := D - 1) (C1 := 0) (C2 := 0) (S1 := 0) (S2 := 0) d_Mo_best_17 rfl w_1209 w_1211 w_15 hm_0 k_Mo_in (Nat.le_of_ble_eq_true rfl) rfl (Nat.le_of_ble_eq_true rfl) (by omega) rfl rfl ?_
    refine c_Mo_in (by omega)  (fun c_17 => ?_) (fun c_17 => ?_)
    · skip
      refine wp_if_ne (t := 26) d_Mo_best_20 (by decide) (fun c_20 => ?_) (fun c_20 => (absurd c_20 (by decide)))
      obtain ⟨nn, hnn, rfl⟩ := sp_n1 (N := 20) rfl c_17
      refine wp_iconst (v := 0) d_Mo_best_26 rfl ?_
      refine wp_istore_n (ls' := [_, _, _, _, _, _, _, _]) d_Mo_best_27 rfl (by decide) rfl ?_
      refine wp_iconst (v := (-1)) d_Mo_best_28 rfl ?_
      refine wp_istore (ls' := [_, _, _, _, _, _, _, _]) d_Mo_best_29 (by decide) rfl ?_
      refine wp_iconst (v := 0) d_Mo_best_31 rfl ?_
      refine wp_istore (ls' := [_, _, _, _, _, _, _, _]) d_Mo_best_32 (by decide) rfl ?_
      refine wp_iconst (v := 1) d_Mo_best_34 rfl ?_
      refine wp_istore (ls' := [_, _, _, _, _, _, _, _]) d_Mo_best_35 (by decide) rfl ?_
      exact l_Mo_best_37 (by omega) hw hh e32 (by omega) 99 1 (0, -1, 0) I A (by omega) ms.rf (kk c_4 c_17 nn hnn rfl)
    · skip
      refine wp_if_ne (t := 26) d_Mo_best_20 (by decide) (fun c_20 => (absurd c_20 (by decide))) (fun c_20 => ?_)
      refine wp_bipush (v := (-2)) d_Mo_best_23 (by decide) ?_
      refine wp_ireturn d_Mo_best_25 rfl rfl ?_
      exact kb c_4 c_17
  · skip
    refine wp_if_ne (t := 12) d_Mo_best_7 (by decide) (fun c_7 => (absurd c_7 (by decide))) (fun c_7 => ?_)
    refine wp_iconst (v := (-1)) d_Mo_best_10 rfl ?_
    refine wp_ireturn d_Mo_best_11 rfl rfl ?_
    exact kn c_4
set_option maxRecDepth 4000 in
theorem c_Mo_pulleyOf {n b : Nat} {ln : Nat → Nat} {cl : List sp_Cl} {bt : Int32} {nn : Nat} (hD : 7 ≤ D) (hw : mo_w I A n ln b cl) (hh : mo_h A) (e32 : I 32 = 9999) (hn30 : nn ≤ 30) (k : ∀ (I' : Nat → Int32) (A' : Nat → Nat → Int32), ms [29, 30, 31, 33, 36, 37, 38] [28, 34, 35, 39] I I' A A' → Q (some (.int (sp_pl (sp_many (A 5, A 6, A 9, ln, n, cl) (I 2) (A 7) (A 8) (nn) (bt) (0) (0)) (nI (nn)) (sp_pull cl) (sp_rise cl) (I 0) (sp_lat (A 5, A 6, A 9, ln, n, cl) (I 2) (A 7) (A 8) (nn) (bt) (0) (0))))) (HM X I' A' L E)) : px_W G D 0 0 m_Mo_pulleyOf 0 (px_ent 3 [.ref X.length, .int (nI nn), .int bt]) [] (HM X I A L E) Q := by
  show px_W _ _ _ _ _ _ [some (.ref X.length), some (.int (nI nn)), some (.int bt)] [] _ _
  refine wp_aload_n d_Mo_pulleyOf_0 rfl rfl rfl ?_
  refine wp_iload_n d_Mo_pulleyOf_1 rfl rfl ?_
  refine wp_iload_n d_Mo_pulleyOf_2 rfl rfl ?_
  refine wp_callV (r := (R_12, T_12, 70)) (M' := m_Mo_upBy) (as := [_, _]) (D' := D - 1) (C1 := 0) (C2 := 0) (S1 := 0) (S2 := 0) d_Mo_pulleyOf_3 rfl w_1407 w_1409 w_53 hm_0 k_Mo_upBy (Nat.le_of_ble_eq_true rfl) rfl (Nat.le_of_ble_eq_true rfl) (by omega) rfl rfl ?_
  refine c_Mo_upBy (by omega) (nn := nn) hw hh e32 hn30 (fun I1 A1 hm1 g37 g38 g39 => ?_)
  refine wp_iload_n d_Mo_pulleyOf_6 rfl rfl ?_
  refine wp_icmp_ge (t := 16) d_Mo_pulleyOf_7 (by decide) (fun c_7 => ?_) (fun c_7 => ?_)
  · skip
    refine wp_iload_n d_Mo_pulleyOf_16 rfl rfl ?_
    refine wp_aload_n d_Mo_pulleyOf_17 rfl rfl rfl ?_
    refine wp_callV (r := (R_12, T_12, 70)) (M' := m_Mo_pull) (as := []) (D' := D - 1) (C1 := 0) (C2 := 0) (S1 := 0) (S2 := 0) d_Mo_pulleyOf_18 rfl w_1353 w_1355 w_44 hm_0 k_Mo_pull (Nat.le_of_ble_eq_true rfl) rfl (Nat.le_of_ble_eq_true rfl) (by omega) rfl rfl ?_
    refine c_Mo_pull (by omega) (hw.2.2.2.2.1.ms hm1 (by decide) (by decide)) ?_
    refine wp_imul d_Mo_pulleyOf_21 ?_
    refine wp_aload_n d_Mo_pulleyOf_22 rfl rfl rfl ?_
    refine wp_callV (r := (R_12, T_12, 70)) (M' := m_Mo_rise) (as := []) (D' := D - 1) (C1 := 0) (C2 := 0) (S1 := 0) (S2 := 0) d_Mo_pulleyOf_23 rfl w_1341 w_1343 w_41 hm_0 k_Mo_rise (Nat.le_of_ble_eq_true rfl) rfl (Nat.le_of_ble_eq_true rfl) (by omega) rfl rfl ?_
    refine c_Mo_rise (by omega) (hw.2.2.2.2.1.ms hm1 (by decide) (by decide)) ?_
    refine wp_aload_n d_Mo_pulleyOf_26 rfl rfl rfl ?_
    refine gM_0 rfl d_Mo_pulleyOf_27 ?_
    refine wp_imul d_Mo_pulleyOf_30 ?_
    refine wp_iadd d_Mo_pulleyOf_31 ?_
    refine wp_aload_n d_Mo_pulleyOf_32 rfl rfl rfl ?_
    refine gM_38 rfl d_Mo_pulleyOf_33 ?_
    refine wp_isub d_Mo_pulleyOf_36 ?_
    refine wp_ireturn d_Mo_pulleyOf_37 rfl rfl ?_
    have k1 := k I1 A1 hm1
    first
      | (rw [show (sp_pl (sp_many (A 5, A 6, A 9, ln, n, cl) (I 2) (A 7) (A 8) (nn) (bt) (0) (0)) (nI (nn)) (sp_pull cl) (sp_rise cl) (I 0) (sp_lat (A 5, A 6, A 9, ln, n, cl) (I 2) (A 7) (A 8) (nn) (bt) (0) (0))) = -100001 from if_pos (Int32.not_le.mp c_7)] at k1; exact k1)
      | (rw [show (sp_pl (sp_many (A 5, A 6, A 9, ln, n, cl) (I 2) (A 7) (A 8) (nn) (bt) (0) (0)) (nI (nn)) (sp_pull cl) (sp_rise cl) (I 0) (sp_lat (A 5, A 6, A 9, ln, n, cl) (I 2) (A 7) (A 8) (nn) (bt) (0) (0))) = nI nn * sp_pull cl + sp_rise cl * I 0 - (sp_lat (A 5, A 6, A 9, ln, n, cl) (I 2) (A 7) (A 8) (nn) (bt) (0) (0)) from if_neg (Int32.not_lt.mpr c_7)] at k1
         rw [hm1.1 0 (by decide), g38]
         exact k1)
  · skip
    refine wp_ldcw d_Mo_pulleyOf_10 w_1451 ?_
    refine wp_goto (t := 37) d_Mo_pulleyOf_13 (by decide) ?_
    refine wp_ireturn d_Mo_pulleyOf_37 rfl rfl ?_
    have k1 := k I1 A1 hm1
    first
      | (rw [show (sp_pl (sp_many (A 5, A 6, A 9, ln, n, cl) (I 2) (A 7) (A 8) (nn) (bt) (0) (0)) (nI (nn)) (sp_pull cl) (sp_rise cl) (I 0) (sp_lat (A 5, A 6, A 9, ln, n, cl) (I 2) (A 7) (A 8) (nn) (bt) (0) (0))) = -100001 from if_pos (Int32.not_le.mp c_7)] at k1; exact k1)
      | (rw [show (sp_pl (sp_many (A 5, A 6, A 9, ln, n, cl) (I 2) (A 7) (A 8) (nn) (bt) (0) (0)) (nI (nn)) (sp_pull cl) (sp_rise cl) (I 0) (sp_lat (A 5, A 6, A 9, ln, n, cl) (I 2) (A 7) (A 8) (nn) (bt) (0) (0))) = nI nn * sp_pull cl + sp_rise cl * I 0 - (sp_lat (A 5, A 6, A 9, ln, n, cl) (I 2) (A 7) (A 8) (nn) (bt) (0) (0)) from if_neg (Int32.not_lt.mpr c_7)] at k1
         rw [hm1.1 0 (by decide), g38]
         exact k1)
set_option maxRecDepth 4000 in
theorem c_Mo_pulley {n b : Nat} {ln : Nat → Nat} {cl : List sp_Cl} {x bt : Int32} (hD : 8 ≤ D) (hw : mo_w I A n ln b cl) (hh : mo_h A) (e32 : I 32 = 9999) (kb : ¬ ((1 ≤ x ∧ x ≤ 30) ∧ (1 ≤ bt ∧ bt ≤ 99)) → Q (some (.int (-100002))) (HM X I A L E)) (kk : ((1 ≤ x ∧ x ≤ 30) ∧ (1 ≤ bt ∧ bt ≤ 99)) → ∀ nn, nn ≤ 30 → x = nI nn → ∀ (I' : Nat → Int32) (A' : Nat → Nat → Int32), ms [29, 30, 31, 33, 36, 37, 38] [28, 34, 35, 39] I I' A A' → Q (some (.int (sp_pl (sp_many (A 5, A 6, A 9, ln, n, cl) (I 2) (A 7) (A 8) (nn) (bt) (0) (0)) (nI (nn)) (sp_pull cl) (sp_rise cl) (I 0) (sp_lat (A 5, A 6, A 9, ln, n, cl) (I 2) (A 7) (A 8) (nn) (bt) (0) (0))))) (HM X I' A' L E)) : px_W G D 0 0 m_Mo_pulley 0 (px_ent 3 [.ref X.length, .int x, .int bt]) [] (HM X I A L E) Q := by
  show px_W _ _ _ _ _ _ [some (.ref X.length), some (.int x), some (.int bt)] [] _ _
  refine wp_aload_n d_Mo_pulley_0 rfl rfl rfl ?_
  refine wp_iload_n d_Mo_pulley_1 rfl rfl ?_
  refine wp_iconst (v := 1) d_Mo_pulley_2 rfl ?_
  refine wp_bipush (v := 30) d_Mo_pulley_3 (by decide) ?_
  refine wp_callV (r := (R_12, T_12, 70)) (M' := m_Mo_in) (as := [_, _, _]) (D' := D - 1) (C1 := 0) (C2 := 0) (S1 := 0) (S2 := 0) d_Mo_pulley_5 rfl w_1209 w_1211 w_15 hm_0 k_Mo_in (Nat.le_of_ble_eq_true rfl) rfl (Nat.le_of_ble_eq_true rfl) (by omega) rfl rfl ?_
  refine c_Mo_in (by omega)  (fun c_5 => ?_) (fun c_5 => ?_)
  · skip
    refine wp_if_eq (t := 28) d_Mo_pulley_8 (by decide) (fun c_8 => (absurd c_8 (by decide))) (fun c_8 => ?_)
    refine wp_aload_n d_Mo_pulley_11 rfl rfl rfl ?_
    refine wp_iload_n d_Mo_pulley_12 rfl rfl ?_
    refine wp_callV (r := (R_12, T_12, 70)) (M' := m_Mo_isBeat) (as := [_]) (D' := D - 1) (C1 := 0) (C2 := 0) (S1 := 0) (S2 := 0) d_Mo_pulley_13 rfl w_1361 w_1363 w_45 hm_0 k_Mo_isBeat (Nat.le_of_ble_eq_true rfl) rfl (Nat.le_of_ble_eq_true rfl) (by omega) rfl rfl ?_
    refine c_Mo_isBeat (by omega)  (fun c_13 => ?_) (fun c_13 => ?_)
    · skip
      refine wp_if_eq (t := 28) d_Mo_pulley_16 (by decide) (fun c_16 => (absurd c_16 (by decide))) (fun c_16 => ?_)
      obtain ⟨nn, hnn, rfl⟩ := sp_n1 (N := 30) rfl c_5
      refine wp_aload_n d_Mo_pulley_19 rfl rfl rfl ?_
      refine wp_iload_n d_Mo_pulley_20 rfl rfl ?_
      refine wp_iload_n d_Mo_pulley_21 rfl rfl ?_
      refine wp_callV (r := (R_12, T_12, 70)) (M' := m_Mo_pulleyOf) (as := [_, _]) (D' := D - 1) (C1 := 0) (C2 := 0) (S1 := 0) (S2 := 0) d_Mo_pulley_22 rfl w_1447 w_1449 w_58 hm_0 k_Mo_pulleyOf (Nat.le_of_ble_eq_true rfl) rfl (Nat.le_of_ble_eq_true rfl) (by omega) rfl rfl ?_
      refine c_Mo_pulleyOf (by omega) (nn := nn) hw hh e32 hnn (fun I1 A1 hm1 => ?_)
      refine wp_goto (t := 31) d_Mo_pulley_25 (by decide) ?_
      refine wp_ireturn d_Mo_pulley_31 rfl rfl ?_
      first
        | exact kk ⟨c_5, c_13⟩ nn hnn rfl _ _ hm1
        | exact kb (fun z => c_5 z.1)
        | exact kb (fun z => c_13 z.2)
    · skip
      refine wp_if_eq (t := 28) d_Mo_pulley_16 (by decide) (fun c_16 => ?_) (fun c_16 => (absurd c_16 (by decide)))
      refine wp_ldcw d_Mo_pulley_28 w_1452 ?_
      refine wp_ireturn d_Mo_pulley_31 rfl rfl ?_
      first
        | exact kk ⟨c_5, c_13⟩ nn hnn rfl _ _ hm1
        | exact kb (fun z => c_5 z.1)
        | exact kb (fun z => c_13 z.2)
  · skip
    refine wp_if_eq (t := 28) d_Mo_pulley_8 (by decide) (fun c_8 => ?_) (fun c_8 => (absurd c_8 (by decide)))
    refine wp_ldcw d_Mo_pulley_28 w_1452 ?_
    refine wp_ireturn d_Mo_pulley_31 rfl rfl ?_
    first
      | exact kk ⟨c_5, c_13⟩ nn hnn rfl _ _ hm1
      | exact kb (fun z => c_5 z.1)
      | exact kb (fun z => c_13 z.2)
set_option maxRecDepth 4000 in
theorem l_Mo_from_13 {n b : Nat} {ln : Nat → Nat} {cl : List sp_Cl} {bt : Int32} (hD : 8 ≤ D) (hw : mo_w I A n ln b cl) (hh : mo_h A) (e32 : I 32 = 9999) : ∀ (q nn : Nat) (I1 : Nat → Int32) (A1 : Nat → Nat → Int32), nn + q = 31 → ms [29, 30, 31, 33, 36, 37, 38] [28, 34, 35, 39] I I1 A A1 → (∀ (I' : Nat → Int32) (A' : Nat → Nat → Int32), ms [29, 30, 31, 33, 36, 37, 38] [28, 34, 35, 39] I I' A A' → Q (some (.int (sp_from (fun z => (sp_pl (sp_many (A 5, A 6, A 9, ln, n, cl) (I 2) (A 7) (A 8) (z) (bt) (0) (0)) (nI (z)) (sp_pull cl) (sp_rise cl) (I 0) (sp_lat (A 5, A 6, A 9, ln, n, cl) (I 2) (A 7) (A 8) (z) (bt) (0) (0)))) q nn))) (HM X I' A' L E)) → px_W G D 0 0 m_Mo_from 13 [some (.ref X.length), some (.int bt), some (.int (nI nn))] [] (HM X I1 A1 L E) Q := by
  intro q
  induction q with
  | zero =>
    intro nn I1 A1 hb hm hq
    have hb2 : nn = 31 := by omega
    subst hb2
    refine wp_iload_n d_Mo_from_13 rfl rfl ?_
    refine wp_bipush (v := 31) d_Mo_from_14 (by decide) ?_
    refine wp_icmp_ge (t := 36) d_Mo_from_16 (by decide) (fun c_16 => ?_) (fun c_16 => absurd (by decide) c_16)
    refine wp_bipush (v := (-5)) d_Mo_from_36 (by decide) ?_
    refine wp_ireturn d_Mo_from_38 rfl rfl ?_
    exact hq _ _ hm
  | succ q ih =>
    intro nn I1 A1 hb hm hq
    have hw1 : mo_w I1 A1 n ln b cl := hw.ms hm (by decide) (by decide)
    have hh1 : mo_h A1 := hh.ms hm (by decide)
    have e1 : I1 32 = 9999 := (hm.1 32 (by decide)).trans e32
    have a5 : A1 5 = A 5 := hm.2 5 (by decide)
    have a6 : A1 6 = A 6 := hm.2 6 (by decide)
    have a7 : A1 7 = A 7 := hm.2 7 (by decide)
    have a8 : A1 8 = A 8 := hm.2 8 (by decide)
    have a9 : A1 9 = A 9 := hm.2 9 (by decide)
    have i2 : I1 2 = I 2 := hm.1 2 (by decide)
    have hst : sp_from (fun z => (sp_pl (sp_many (A 5, A 6, A 9, ln, n, cl) (I 2) (A 7) (A 8) (z) (bt) (0) (0)) (nI (z)) (sp_pull cl) (sp_rise cl) (I 0) (sp_lat (A 5, A 6, A 9, ln, n, cl) (I 2) (A 7) (A 8) (z) (bt) (0) (0)))) (q + 1) nn = if 0 < (sp_pl (sp_many (A 5, A 6, A 9, ln, n, cl) (I 2) (A 7) (A 8) (nn) (bt) (0) (0)) (nI (nn)) (sp_pull cl) (sp_rise cl) (I 0) (sp_lat (A 5, A 6, A 9, ln, n, cl) (I 2) (A 7) (A 8) (nn) (bt) (0) (0))) then nI nn else sp_from (fun z => (sp_pl (sp_many (A 5, A 6, A 9, ln, n, cl) (I 2) (A 7) (A 8) (z) (bt) (0) (0)) (nI (z)) (sp_pull cl) (sp_rise cl) (I 0) (sp_lat (A 5, A 6, A 9, ln, n, cl) (I 2) (A 7) (A 8) (z) (bt) (0) (0)))) q (nn + 1) := rfl
    rw [hst] at hq
    have i0 : I1 0 = I 0 := hm.1 0 (by decide)
    have eg : sp_many (A1 5, A1 6, A1 9, ln, n, cl) (I1 2) (A1 7) (A1 8) (nn) (bt) (0) (0) = sp_many (A 5, A 6, A 9, ln, n, cl) (I 2) (A 7) (A 8) (nn) (bt) (0) (0) := by rw [a5, a6, a7, a8, a9, i2]
    have el : sp_lat (A1 5, A1 6, A1 9, ln, n, cl) (I1 2) (A1 7) (A1 8) (nn) (bt) (0) (0) = sp_lat (A 5, A 6, A 9, ln, n, cl) (I 2) (A 7) (A 8) (nn) (bt) (0) (0) := by rw [a5, a6, a7, a8, a9, i2]
    refine wp_iload_n d_Mo_from_13 rfl rfl ?_
    refine wp_bipush (v := 31) d_Mo_from_14 (by decide) ?_
    refine wp_icmp_ge (t := 36) d_Mo_from_16 (by decide) (fun c_16 => absurd c_16 (nI_ge (b := 31) (by omega) (by decide))) (fun c_16 => ?_)
    refine wp_aload_n d_Mo_from_19 rfl rfl rfl ?_
    refine wp_iload_n d_Mo_from_20 rfl rfl ?_
    refine wp_iload_n d_Mo_from_21 rfl rfl ?_
    refine wp_callV (r := (R_12, T_12, 70)) (M' := m_Mo_pulleyOf) (as := [_, _]) (D' := D - 1) (C1 := 0) (C2 := 0) (S1 := 0) (S2 := 0) d_Mo_from_22 rfl w_1447 w_1449 w_58 hm_0 k_Mo_pulleyOf (Nat.le_of_ble_eq_true rfl) rfl (Nat.le_of_ble_eq_true rfl) (by omega) rfl rfl ?_
    refine c_Mo_pulleyOf (by omega) (nn := nn) hw1 hh1 e1 (by omega) (fun I2 A2 hm2 => ?_)
    rw [eg, el, i0]
    refine wp_if_le (t := 30) d_Mo_from_25 (by decide) (fun c_25 => ?_) (fun c_25 => ?_)
    · skip
      refine wp_iinc (v := _ + 1) (ls' := [_, _, _]) d_Mo_from_30 (by decide) rfl rfl rfl ?_
      refine wp_goto (t := 13) d_Mo_from_33 (by decide) ?_
      rw [if_neg (Int32.not_lt.mpr c_25)] at hq
      rw [show nI nn + 1 = nI (nn + 1) from nI_1 nn]
      exact ih (nn + 1) _ _ (by omega) (hm.tr hm2) hq
    · skip
      refine wp_iload_n d_Mo_from_28 rfl rfl ?_
      refine wp_ireturn d_Mo_from_29 rfl rfl ?_
      rw [if_pos (Int32.not_le.mp c_25)] at hq
      exact hq _ _ (hm.tr hm2)
set_option maxRecDepth 4000 in
theorem c_Mo_from {n b : Nat} {ln : Nat → Nat} {cl : List sp_Cl} {bt : Int32} (hD : 8 ≤ D) (hw : mo_w I A n ln b cl) (hh : mo_h A) (e32 : I 32 = 9999) (kb : ¬ (1 ≤ bt ∧ bt ≤ 99) → Q (some (.int (-2))) (HM X I A L E)) (kk : (1 ≤ bt ∧ bt ≤ 99) → ∀ (I' : Nat → Int32) (A' : Nat → Nat → Int32), ms [29, 30, 31, 33, 36, 37, 38] [28, 34, 35, 39] I I' A A' → Q (some (.int (sp_from (fun z => (sp_pl (sp_many (A 5, A 6, A 9, ln, n, cl) (I 2) (A 7) (A 8) (z) (bt) (0) (0)) (nI (z)) (sp_pull cl) (sp_rise cl) (I 0) (sp_lat (A 5, A 6, A 9, ln, n, cl) (I 2) (A 7) (A 8) (z) (bt) (0) (0)))) 30 1))) (HM X I' A' L E)) : px_W G D 0 0 m_Mo_from 0 (px_ent 3 [.ref X.length, .int bt]) [] (HM X I A L E) Q := by
  show px_W _ _ _ _ _ _ [some (.ref X.length), some (.int bt), none] [] _ _
  refine wp_aload_n d_Mo_from_0 rfl rfl rfl ?_
  refine wp_iload_n d_Mo_from_1 rfl rfl ?_
  refine wp_callV (r := (R_12, T_12, 70)) (M' := m_Mo_isBeat) (as := [_]) (D' := D - 1) (C1 := 0) (C2 := 0) (S1 := 0) (S2 := 0) d_Mo_from_2 rfl w_1361 w_1363 w_45 hm_0 k_Mo_isBeat (Nat.le_of_ble_eq_true rfl) rfl (Nat.le_of_ble_eq_true rfl) (by omega) rfl rfl ?_
  refine c_Mo_isBeat (by omega)  (fun c_2 => ?_) (fun c_2 => ?_)
  · skip
    refine wp_if_ne (t := 11) d_Mo_from_5 (by decide) (fun c_5 => ?_) (fun c_5 => (absurd c_5 (by decide)))
    refine wp_iconst (v := 1) d_Mo_from_11 rfl ?_
    refine wp_istore_n (ls' := [_, _, _]) d_Mo_from_12 rfl (by decide) rfl ?_
    exact l_Mo_from_13 hD hw hh e32 30 1 I A (by omega) ms.rf (kk c_2)
  · skip
    refine wp_if_ne (t := 11) d_Mo_from_5 (by decide) (fun c_5 => (absurd c_5 (by decide))) (fun c_5 => ?_)
    refine wp_bipush (v := (-2)) d_Mo_from_8 (by decide) ?_
    refine wp_ireturn d_Mo_from_10 rfl rfl ?_
    exact kb c_2
set_option maxRecDepth 4000 in
theorem l_Mo_rested_37 {n b : Nat} {ln : Nat → Nat} {cl : List sp_Cl} {bt r : Int32} {nn : Nat} (hD : 6 ≤ D) (hw : mo_w I A n ln b cl) (hh : mo_h A) (e32 : I 32 = 9999) (hn30 : nn ≤ 30) : ∀ (j : Nat) (I1 : Nat → Int32) (A1 : Nat → Nat → Int32), j ≤ 20 → ms [29, 30, 31, 33, 36, 37, 38] [28, 34, 35, 39] I I1 A A1 → (∀ (I' : Nat → Int32) (A' : Nat → Nat → Int32), ms [29, 30, 31, 33, 36, 37, 38] [28, 34, 35, 39] I I' A A' → Q (some (.int (sp_rst (fun j => (sp_many (A 5, A 6, A 9, ln, n, cl) (I 2) (A 7) (A 8) (nn) (bt) (r) (j))) (nI nn) j))) (HM X I' A' L E)) → px_W G D 0 0 m_Mo_rested 37 [some (.ref X.length), some (.int (nI nn)), some (.int bt), some (.int r), some (.int (nI j))] [] (HM X I1 A1 L E) Q := by
  intro j
  induction j with
  | zero =>
    intro I1 A1 hb hm hq
    refine wp_iload d_Mo_rested_37 rfl ?_
    refine wp_if_le (t := 68) d_Mo_rested_39 (by decide) (fun c_39 => ?_) (fun c_39 => absurd (by decide) c_39)
    refine wp_bipush (v := (-5)) d_Mo_rested_68 (by decide) ?_
    refine wp_ireturn d_Mo_rested_70 rfl rfl ?_
    exact hq _ _ hm
  | succ j ih =>
    intro I1 A1 hb hm hq
    have hw1 : mo_w I1 A1 n ln b cl := hw.ms hm (by decide) (by decide)
    have hh1 : mo_h A1 := hh.ms hm (by decide)
    have e1 : I1 32 = 9999 := (hm.1 32 (by decide)).trans e32
    have a5 : A1 5 = A 5 := hm.2 5 (by decide)
    have a6 : A1 6 = A 6 := hm.2 6 (by decide)
    have a7 : A1 7 = A 7 := hm.2 7 (by decide)
    have a8 : A1 8 = A 8 := hm.2 8 (by decide)
    have a9 : A1 9 = A 9 := hm.2 9 (by decide)
    have i2 : I1 2 = I 2 := hm.1 2 (by decide)
    have hst : sp_rst (fun j => (sp_many (A 5, A 6, A 9, ln, n, cl) (I 2) (A 7) (A 8) (nn) (bt) (r) (j))) (nI nn) (j + 1) = if (sp_many (A 5, A 6, A 9, ln, n, cl) (I 2) (A 7) (A 8) (nn) (bt) (r) (j + 1)) = nI nn then nI (j + 1) else sp_rst (fun j => (sp_many (A 5, A 6, A 9, ln, n, cl) (I 2) (A 7) (A 8) (nn) (bt) (r) (j))) (nI nn) j := rfl
    rw [hst] at hq
    have eg : sp_many (A1 5, A1 6, A1 9, ln, n, cl) (I1 2) (A1 7) (A1 8) (nn) (bt) (r) (j + 1) = sp_many (A 5, A 6, A 9, ln, n, cl) (I 2) (A 7) (A 8) (nn) (bt) (r) (j + 1) := by rw [a5, a6, a7, a8, a9, i2]
    refine wp_iload d_Mo_rested_37 rfl ?_
    refine wp_if_le (t := 68) d_Mo_rested_39 (by decide) (fun c_39 => absurd c_39 (Int32.not_le.mpr (nI_lt (a := 0) (by omega) (by omega)))) (fun c_39 => ?_)
    refine wp_aload_n d_Mo_rested_42 rfl rfl rfl ?_
    refine wp_iload_n d_Mo_rested_43 rfl rfl ?_
    refine wp_iload_n d_Mo_rested_44 rfl rfl ?_
    refine wp_iload d_Mo_rested_45 rfl ?_
    refine wp_iload_n d_Mo_rested_47 rfl rfl ?_
    refine wp_callV (r := (R_12, T_12, 70)) (M' := m_Mo_layTubes) (as := [_, _, _, _]) (D' := D - 1) (C1 := 0) (C2 := 0) (S1 := 0) (S2 := 0) d_Mo_rested_48 rfl w_1382 w_1384 w_48 hm_0 k_Mo_layTubes (Nat.le_of_ble_eq_true rfl) rfl (Nat.le_of_ble_eq_true rfl) (by omega) rfl rfl ?_
    refine c_Mo_lay2 (by omega) (nn := nn) (jj := j + 1) hw1 hh1 e1 hn30 (by omega) (fun I2 A2 hm2 g36 g37 g38 g39 => ?_)
    rw [eg] at g36
    refine wp_aload_n d_Mo_rested_51 rfl rfl rfl ?_
    refine gM_36 rfl d_Mo_rested_52 ?_
    rw [g36]
    refine wp_iload_n d_Mo_rested_55 rfl rfl ?_
    refine wp_icmp_ne (t := 62) d_Mo_rested_56 (by decide) (fun c_56 => ?_) (fun c_56 => ?_)
    · skip
      refine wp_iinc (v := _ + (-1)) (ls' := [_, _, _, _, _]) d_Mo_rested_62 (by decide) rfl rfl rfl ?_
      refine wp_goto (t := 37) d_Mo_rested_65 (by decide) ?_
      rw [if_neg c_56] at hq
      rw [show nI (j + 1) + -1 = nI j from pk_m1 j]
      exact ih _ _ (by omega) (hm.tr hm2) hq
    · skip
      refine wp_iload d_Mo_rested_59 rfl ?_
      refine wp_ireturn d_Mo_rested_61 rfl rfl ?_
      rw [if_pos c_56] at hq
      exact hq _ _ (hm.tr hm2)
set_option maxRecDepth 4000 in
theorem c_Mo_rested {n b : Nat} {ln : Nat → Nat} {cl : List sp_Cl} {x bt r : Int32} (hD : 7 ≤ D) (hw : mo_w I A n ln b cl) (hh : mo_h A) (e32 : I 32 = 9999) (kb : ¬ ((1 ≤ x ∧ x ≤ 20) ∧ (1 ≤ bt ∧ bt ≤ 99) ∧ (1 ≤ r ∧ r ≤ 60)) → Q (some (.int (-2))) (HM X I A L E)) (kk : ((1 ≤ x ∧ x ≤ 20) ∧ (1 ≤ bt ∧ bt ≤ 99) ∧ (1 ≤ r ∧ r ≤ 60)) → ∀ nn, nn ≤ 20 → x = nI nn → ∀ (I' : Nat → Int32) (A' : Nat → Nat → Int32), ms [29, 30, 31, 33, 36, 37, 38] [28, 34, 35, 39] I I' A A' → Q (some (.int (sp_rst (fun j => (sp_many (A 5, A 6, A 9, ln, n, cl) (I 2) (A 7) (A 8) (nn) (bt) (r) (j))) (nI nn) 20))) (HM X I' A' L E)) : px_W G D 0 0 m_Mo_rested 0 (px_ent 5 [.ref X.length, .int x, .int bt, .int r]) [] (HM X I A L E) Q := by
  show px_W _ _ _ _ _ _ [some (.ref X.length), some (.int x), some (.int bt), some (.int r), none] [] _ _
  refine wp_aload_n d_Mo_rested_0 rfl rfl rfl ?_
  refine wp_iload_n d_Mo_rested_1 rfl rfl ?_
  refine wp_iconst (v := 1) d_Mo_rested_2 rfl ?_
  refine wp_bipush (v := 20) d_Mo_rested_3 (by decide) ?_
  refine wp_callV (r := (R_12, T_12, 70)) (M' := m_Mo_in) (as := [_, _, _]) (D' := D - 1) (C1 := 0) (C2 := 0) (S1 := 0) (S2 := 0) d_Mo_rested_5 rfl w_1209 w_1211 w_15 hm_0 k_Mo_in (Nat.le_of_ble_eq_true rfl) rfl (Nat.le_of_ble_eq_true rfl) (by omega) rfl rfl ?_
  refine c_Mo_in (by omega)  (fun c_5 => ?_) (fun c_5 => ?_)
  · skip
    refine wp_if_eq (t := 30) d_Mo_rested_8 (by decide) (fun c_8 => (absurd c_8 (by decide))) (fun c_8 => ?_)
    refine wp_aload_n d_Mo_rested_11 rfl rfl rfl ?_
    refine wp_iload_n d_Mo_rested_12 rfl rfl ?_
    refine wp_callV (r := (R_12, T_12, 70)) (M' := m_Mo_isBeat) (as := [_]) (D' := D - 1) (C1 := 0) (C2 := 0) (S1 := 0) (S2 := 0) d_Mo_rested_13 rfl w_1361 w_1363 w_45 hm_0 k_Mo_isBeat (Nat.le_of_ble_eq_true rfl) rfl (Nat.le_of_ble_eq_true rfl) (by omega) rfl rfl ?_
    refine c_Mo_isBeat (by omega)  (fun c_13 => ?_) (fun c_13 => ?_)
    · skip
      refine wp_if_eq (t := 30) d_Mo_rested_16 (by decide) (fun c_16 => (absurd c_16 (by decide))) (fun c_16 => ?_)
      refine wp_aload_n d_Mo_rested_19 rfl rfl rfl ?_
      refine wp_iload_n d_Mo_rested_20 rfl rfl ?_
      refine wp_iconst (v := 1) d_Mo_rested_21 rfl ?_
      refine wp_bipush (v := 60) d_Mo_rested_22 (by decide) ?_
      refine wp_callV (r := (R_12, T_12, 70)) (M' := m_Mo_in) (as := [_, _, _]) (D' := D - 1) (C1 := 0) (C2 := 0) (S1 := 0) (S2 := 0) d_Mo_rested_24 rfl w_1209 w_1211 w_15 hm_0 k_Mo_in (Nat.le_of_ble_eq_true rfl) rfl (Nat.le_of_ble_eq_true rfl) (by omega) rfl rfl ?_
      refine c_Mo_in (by omega)  (fun c_24 => ?_) (fun c_24 => ?_)
      · skip
        refine wp_if_ne (t := 33) d_Mo_rested_27 (by decide) (fun c_27 => ?_) (fun c_27 => (absurd c_27 (by decide)))
        obtain ⟨nn, hnn, rfl⟩ := sp_n1 (N := 20) rfl c_5
        refine wp_bipush (v := 20) d_Mo_rested_33 (by decide) ?_
        refine wp_istore (ls' := [_, _, _, _, _]) d_Mo_rested_35 (by decide) rfl ?_
        exact l_Mo_rested_37 (by omega) hw hh e32 (by omega) 20 I A (by omega) ms.rf (kk ⟨c_5, c_13, c_24⟩ nn hnn rfl)
      · skip
        refine wp_if_ne (t := 33) d_Mo_rested_27 (by decide) (fun c_27 => (absurd c_27 (by decide))) (fun c_27 => ?_)
        refine wp_bipush (v := (-2)) d_Mo_rested_30 (by decide) ?_
        refine wp_ireturn d_Mo_rested_32 rfl rfl ?_
        first | exact kb (fun z => c_5 z.1) | exact kb (fun z => c_13 z.2.1) | exact kb (fun z => c_24 z.2.2)
    · skip
      refine wp_if_eq (t := 30) d_Mo_rested_16 (by decide) (fun c_16 => ?_) (fun c_16 => (absurd c_16 (by decide)))
      refine wp_bipush (v := (-2)) d_Mo_rested_30 (by decide) ?_
      refine wp_ireturn d_Mo_rested_32 rfl rfl ?_
      first | exact kb (fun z => c_5 z.1) | exact kb (fun z => c_13 z.2.1) | exact kb (fun z => c_24 z.2.2)
  · skip
    refine wp_if_eq (t := 30) d_Mo_rested_8 (by decide) (fun c_8 => ?_) (fun c_8 => (absurd c_8 (by decide)))
    refine wp_bipush (v := (-2)) d_Mo_rested_30 (by decide) ?_
    refine wp_ireturn d_Mo_rested_32 rfl rfl ?_
    first | exact kb (fun z => c_5 z.1) | exact kb (fun z => c_13 z.2.1) | exact kb (fun z => c_24 z.2.2)
set_option maxRecDepth 4000 in
theorem l_Mo_looked_22 {u bt : Int32} {nb : Nat} (hD : 1 ≤ D) (hb : I 44 = nI nb) (hb8 : nb ≤ 8) (h37 : I 37 = u) (hz : ∀ j, j < 8 → A 46 j = bI (decide (A 46 j = 1))) : ∀ (q k : Nat), k + q = nb → Q (some (.int (sp_lk u (A 45) (A 46) q k))) (HM X I A L E) → px_W G D 0 0 m_Mo_looked 22 [some (.ref X.length), some (.int bt), some (.int (nI k))] [] (HM X I A L E) Q := by
  intro q
  induction q with
  | zero =>
    intro k hk hq
    refine wp_iload_n d_Mo_looked_22 rfl rfl ?_
    refine wp_aload_n d_Mo_looked_23 rfl rfl rfl ?_
    refine gM_44 rfl d_Mo_looked_24 ?_
    refine wp_icmp_ge (t := 61) d_Mo_looked_27 (by decide) (fun c_27 => ?_) (fun c_27 => absurd (by rw [hb]; exact nI_le (by omega) (by omega)) c_27)
    refine wp_bipush (v := (-5)) d_Mo_looked_61 (by decide) ?_
    refine wp_ireturn d_Mo_looked_63 rfl rfl ?_
    exact hq
  | succ q ih =>
    intro k hk hq
    have hst : sp_lk u (A 45) (A 46) (q + 1) k = if bI (decide ((u >>> (A 45 k &&& 31)) &&& 1 = 1)) = A 46 k then sp_lk u (A 45) (A 46) q (k + 1) else nI k := rfl
    rw [hst] at hq
    have eck : (nI k).toNatClampNeg = k := nI_clamp (by omega)
    refine wp_iload_n d_Mo_looked_22 rfl rfl ?_
    refine wp_aload_n d_Mo_looked_23 rfl rfl rfl ?_
    refine gM_44 rfl d_Mo_looked_24 ?_
    refine wp_icmp_ge (t := 61) d_Mo_looked_27 (by decide) (fun c_27 => absurd c_27 (by rw [hb]; exact nI_ge (by omega) (by omega))) (fun c_27 => ?_)
    refine wp_aload_n d_Mo_looked_30 rfl rfl rfl ?_
    refine wp_aload_n d_Mo_looked_31 rfl rfl rfl ?_
    refine gM_37 rfl d_Mo_looked_32 ?_
    rw [h37]
    refine wp_aload_n d_Mo_looked_35 rfl rfl rfl ?_
    refine gM_45 rfl d_Mo_looked_36 ?_
    refine wp_iload_n d_Mo_looked_39 rfl rfl ?_
    refine lM_45 d_Mo_looked_40 (vp_in_nI (by omega) (by decide)) ?_
    rw [eck]
    refine wp_callV (r := (R_12, T_12, 70)) (M' := m_Mo_has) (as := [_, _]) (D' := D - 1) (C1 := 0) (C2 := 0) (S1 := 0) (S2 := 0) d_Mo_looked_41 rfl w_1431 w_1433 w_56 hm_0 k_Mo_has (Nat.le_of_ble_eq_true rfl) rfl (Nat.le_of_ble_eq_true rfl) (by omega) rfl rfl ?_
    refine c_Mo_has (by omega)  (fun c_41 => ?_) (fun c_41 => ?_)
    · skip
      refine wp_aload_n d_Mo_looked_44 rfl rfl rfl ?_
      refine gM_46 rfl d_Mo_looked_45 ?_
      refine wp_iload_n d_Mo_looked_48 rfl rfl ?_
      refine lM_46 d_Mo_looked_49 (vp_in_nI (by omega) (by decide)) ?_
      rw [eck]
      refine wp_icmp_eq (t := 55) d_Mo_looked_50 (by decide) (fun c_50 => ?_) (fun c_50 => ?_)
      · skip
        refine wp_iinc (v := _ + 1) (ls' := [_, _, _]) d_Mo_looked_55 (by decide) rfl rfl rfl ?_
        refine wp_goto (t := 22) d_Mo_looked_58 (by decide) ?_
        rw [show nI k + 1 = nI (k + 1) from nI_1 k]
        first
          | (have hc : bI (decide ((u >>> (A 45 k &&& 31)) &&& 1 = 1)) = A 46 k := by rw [decide_eq_true c_41]; exact c_50
             rw [if_pos hc] at hq; exact ih (k + 1) (by omega) hq)
          | (have hc : bI (decide ((u >>> (A 45 k &&& 31)) &&& 1 = 1)) = A 46 k := by rw [decide_eq_false c_41]; exact c_50
             rw [if_pos hc] at hq; exact ih (k + 1) (by omega) hq)
      · skip
        refine wp_iload_n d_Mo_looked_53 rfl rfl ?_
        refine wp_ireturn d_Mo_looked_54 rfl rfl ?_
        first
          | (have hc : ¬ bI (decide ((u >>> (A 45 k &&& 31)) &&& 1 = 1)) = A 46 k := by rw [decide_eq_true c_41]; exact c_50
             rw [if_neg hc] at hq; exact hq)
          | (have hc : ¬ bI (decide ((u >>> (A 45 k &&& 31)) &&& 1 = 1)) = A 46 k := by rw [decide_eq_false c_41]; exact c_50
             rw [if_neg hc] at hq; exact hq)
    · skip
      refine wp_aload_n d_Mo_looked_44 rfl rfl rfl ?_
      refine gM_46 rfl d_Mo_looked_45 ?_
      refine wp_iload_n d_Mo_looked_48 rfl rfl ?_
      refine lM_46 d_Mo_looked_49 (vp_in_nI (by omega) (by decide)) ?_
      rw [eck]
      refine wp_icmp_eq (t := 55) d_Mo_looked_50 (by decide) (fun c_50 => ?_) (fun c_50 => ?_)
      · skip
        refine wp_iinc (v := _ + 1) (ls' := [_, _, _]) d_Mo_looked_55 (by decide) rfl rfl rfl ?_
        refine wp_goto (t := 22) d_Mo_looked_58 (by decide) ?_
        rw [show nI k + 1 = nI (k + 1) from nI_1 k]
        first
          | (have hc : bI (decide ((u >>> (A 45 k &&& 31)) &&& 1 = 1)) = A 46 k := by rw [decide_eq_true c_41]; exact c_50
             rw [if_pos hc] at hq; exact ih (k + 1) (by omega) hq)
          | (have hc : bI (decide ((u >>> (A 45 k &&& 31)) &&& 1 = 1)) = A 46 k := by rw [decide_eq_false c_41]; exact c_50
             rw [if_pos hc] at hq; exact ih (k + 1) (by omega) hq)
      · skip
        refine wp_iload_n d_Mo_looked_53 rfl rfl ?_
        refine wp_ireturn d_Mo_looked_54 rfl rfl ?_
        first
          | (have hc : ¬ bI (decide ((u >>> (A 45 k &&& 31)) &&& 1 = 1)) = A 46 k := by rw [decide_eq_true c_41]; exact c_50
             rw [if_neg hc] at hq; exact hq)
          | (have hc : ¬ bI (decide ((u >>> (A 45 k &&& 31)) &&& 1 = 1)) = A 46 k := by rw [decide_eq_false c_41]; exact c_50
             rw [if_neg hc] at hq; exact hq)
set_option maxRecDepth 4000 in
theorem c_Mo_looked {n b : Nat} {ln : Nat → Nat} {cl : List sp_Cl} {bt : Int32} {nb : Nat} (hD : 6 ≤ D) (hw : mo_w I A n ln b cl) (hh : mo_h A) (e32 : I 32 = 9999) (hb : I 44 = nI nb) (hb8 : nb ≤ 8) (hz : ∀ j, j < 8 → A 46 j = bI (decide (A 46 j = 1))) (kb : ¬ (1 ≤ bt ∧ bt ≤ 99) → Q (some (.int (-2))) (HM X I A L E)) (kk : (1 ≤ bt ∧ bt ≤ 99) → ∀ (I' : Nat → Int32) (A' : Nat → Nat → Int32), ms [29, 30, 31, 33, 36, 37, 38] [28, 34, 35, 39] I I' A A' → Q (some (.int (sp_lk (sp_ups (A 5, A 6, A 9, ln, n, cl) (I 2) (A 7) (A 8) (20) (bt) (0) (0)) (A 45) (A 46) nb 0))) (HM X I' A' L E)) : px_W G D 0 0 m_Mo_looked 0 (px_ent 3 [.ref X.length, .int bt]) [] (HM X I A L E) Q := by
  show px_W _ _ _ _ _ _ [some (.ref X.length), some (.int bt), none] [] _ _
  refine wp_aload_n d_Mo_looked_0 rfl rfl rfl ?_
  refine wp_iload_n d_Mo_looked_1 rfl rfl ?_
  refine wp_callV (r := (R_12, T_12, 70)) (M' := m_Mo_isBeat) (as := [_]) (D' := D - 1) (C1 := 0) (C2 := 0) (S1 := 0) (S2 := 0) d_Mo_looked_2 rfl w_1361 w_1363 w_45 hm_0 k_Mo_isBeat (Nat.le_of_ble_eq_true rfl) rfl (Nat.le_of_ble_eq_true rfl) (by omega) rfl rfl ?_
  refine c_Mo_isBeat (by omega)  (fun c_2 => ?_) (fun c_2 => ?_)
  · skip
    refine wp_if_ne (t := 11) d_Mo_looked_5 (by decide) (fun c_5 => ?_) (fun c_5 => (absurd c_5 (by decide)))
    refine wp_aload_n d_Mo_looked_11 rfl rfl rfl ?_
    refine wp_bipush (v := 20) d_Mo_looked_12 (by decide) ?_
    refine wp_iload_n d_Mo_looked_14 rfl rfl ?_
    refine wp_iconst (v := 0) d_Mo_looked_15 rfl ?_
    refine wp_iconst (v := 0) d_Mo_looked_16 rfl ?_
    refine wp_callV (r := (R_12, T_12, 70)) (M' := m_Mo_layTubes) (as := [_, _, _, _]) (D' := D - 1) (C1 := 0) (C2 := 0) (S1 := 0) (S2 := 0) d_Mo_looked_17 rfl w_1382 w_1384 w_48 hm_0 k_Mo_layTubes (Nat.le_of_ble_eq_true rfl) rfl (Nat.le_of_ble_eq_true rfl) (by omega) rfl rfl ?_
    refine c_Mo_lay2 (by omega) (nn := 20) (jj := 0) hw hh e32 (by decide) (by decide) (fun I1 A1 hm1 h36 h37 h38 h39 => ?_)
    refine wp_iconst (v := 0) d_Mo_looked_20 rfl ?_
    refine wp_istore_n (ls' := [_, _, _]) d_Mo_looked_21 rfl (by decide) rfl ?_
    have a45 : A1 45 = A 45 := hm1.2 45 (by decide)
    have a46 : A1 46 = A 46 := hm1.2 46 (by decide)
    refine l_Mo_looked_22 (by omega) ((hm1.1 44 (by decide)).trans hb) hb8 h37 (by rw [a46]; exact hz) nb 0 (by omega) ?_
    rw [a45, a46]
    exact kk c_2 _ _ hm1
  · skip
    refine wp_if_ne (t := 11) d_Mo_looked_5 (by decide) (fun c_5 => (absurd c_5 (by decide))) (fun c_5 => ?_)
    refine wp_bipush (v := (-2)) d_Mo_looked_8 (by decide) ?_
    refine wp_ireturn d_Mo_looked_10 rfl rfl ?_
    exact kb c_2
set_option maxRecDepth 4000 in
theorem l_Mo_divisor_5 {u v : Int32} : ∀ (f q p : Nat), q < f → p < 2 ^ 31 → q < 2 ^ 31 → Q (some (.int (nI (Nat.gcd p q)))) (HM X I A L E) → px_W G D 0 0 m_Mo_divisor 5 [some (.ref X.length), some (.int u), some (.int v), some (.int (nI p)), some (.int (nI q)), none] [] (HM X I A L E) Q := by
  intro f
  induction f with
  | zero => intro q p h; omega
  | succ f ih =>
    intro q p hqf hp hqb hq
    have hrem : q ≠ 0 → nI p - nI p / nI q * nI q = nI (p % q) := fun h => pk_rem hp (by omega) hqb
    refine wp_iload d_Mo_divisor_5 rfl ?_
    refine wp_if_eq (t := 26) d_Mo_divisor_7 (by decide) (fun c_7 => ?_) (fun c_7 => ?_)
    · skip
      refine wp_iload_n d_Mo_divisor_26 rfl rfl ?_
      refine wp_ireturn d_Mo_divisor_27 rfl rfl ?_
      have hq0 : q = 0 := (nI_eq (b := 0) hqb (by decide)).mp c_7
      rw [hq0, Nat.gcd_zero_right] at hq
      exact hq
    · skip
      refine wp_iload_n d_Mo_divisor_10 rfl rfl ?_
      refine wp_iload d_Mo_divisor_11 rfl ?_
      refine wp_irem d_Mo_divisor_13 c_7 ?_
      have hq0 : q ≠ 0 := fun e => c_7 (by rw [e]; rfl)
      rw [hrem hq0]
      refine wp_istore (ls' := [_, _, _, _, _, _]) d_Mo_divisor_14 (by decide) rfl ?_
      refine wp_iload d_Mo_divisor_16 rfl ?_
      refine wp_istore_n (ls' := [_, _, _, _, _, _]) d_Mo_divisor_18 rfl (by decide) rfl ?_
      refine wp_iload d_Mo_divisor_19 rfl ?_
      refine wp_istore (ls' := [_, _, _, _, _, _]) d_Mo_divisor_21 (by decide) rfl ?_
      refine wp_goto (t := 5) d_Mo_divisor_23 (by decide) ?_
      have hml := Nat.mod_lt p (Nat.pos_of_ne_zero hq0)
      refine wp_less (ls' := [some (.ref X.length), some (.int _), some (.int _), some (.int (nI q)), some (.int (nI (p % q))), none]) ⟨rfl, rfl, rfl, rfl, rfl, trivial⟩ ?_
      refine ih (p % q) q (by omega) hqb (by omega) ?_
      rw [Nat.gcd_comm, ← Nat.gcd_rec, Nat.gcd_comm]
      exact hq
set_option maxRecDepth 4000 in
theorem c_Mo_divisor {p q : Nat} (hD : 0 ≤ D) (hp : p < 2 ^ 31) (hq : q < 2 ^ 31) (k : Q (some (.int (nI (Nat.gcd p q)))) (HM X I A L E)) : px_W G D 0 0 m_Mo_divisor 0 (px_ent 6 [.ref X.length, .int (nI p), .int (nI q)]) [] (HM X I A L E) Q := by
  show px_W _ _ _ _ _ _ [some (.ref X.length), some (.int (nI p)), some (.int (nI q)), none, none, none] [] _ _
  refine wp_iload_n d_Mo_divisor_0 rfl rfl ?_
  refine wp_istore_n (ls' := [_, _, _, _, _, _]) d_Mo_divisor_1 rfl (by decide) rfl ?_
  refine wp_iload_n d_Mo_divisor_2 rfl rfl ?_
  refine wp_istore (ls' := [_, _, _, _, _, _]) d_Mo_divisor_3 (by decide) rfl ?_
  exact l_Mo_divisor_5 (q + 1) q p (by omega) hp hq k
set_option maxRecDepth 4000 in
theorem c_Mo_lowest {p q : Nat} {x : Int32} (hD : 1 ≤ D) (hp : p < 2 ^ 31) (hq : q < 2 ^ 31) (hq0 : 0 < q) (k0 : x = 0 → Q (some (.long (nI (p / Nat.gcd p q)).toInt64)) (HM X I A L E)) (k1 : ¬ x = 0 → Q (some (.long (nI (q / Nat.gcd p q)).toInt64)) (HM X I A L E)) : px_W G D 0 0 m_Mo_lowest 0 (px_ent 5 [.ref X.length, .int (nI p), .int (nI q), .int x]) [] (HM X I A L E) Q := by
  show px_W _ _ _ _ _ _ [some (.ref X.length), some (.int (nI p)), some (.int (nI q)), some (.int x), none] [] _ _
  refine wp_aload_n d_Mo_lowest_0 rfl rfl rfl ?_
  refine wp_iload_n d_Mo_lowest_1 rfl rfl ?_
  refine wp_iload_n d_Mo_lowest_2 rfl rfl ?_
  refine wp_callV (r := (R_12, T_12, 70)) (M' := m_Mo_divisor) (as := [_, _]) (D' := D - 1) (C1 := 0) (C2 := 0) (S1 := 0) (S2 := 0) d_Mo_lowest_3 rfl w_1487 w_1489 w_61 hm_0 k_Mo_divisor (Nat.le_of_ble_eq_true rfl) rfl (Nat.le_of_ble_eq_true rfl) (by omega) rfl rfl ?_
  refine c_Mo_divisor (by omega) (p := p) (q := q) hp hq ?_
  have hg : 0 < Nat.gcd p q := Nat.gcd_pos_of_pos_right p hq0
  have hgl : Nat.gcd p q ≤ q := Nat.gcd_le_right p hq0
  have hne : ¬ nI (Nat.gcd p q) = 0 := nI_ne0 hg (by omega)
  refine wp_istore (ls' := [_, _, _, _, _]) d_Mo_lowest_6 (by decide) rfl ?_
  refine wp_iload_n d_Mo_lowest_8 rfl rfl ?_
  refine wp_if_ne (t := 20) d_Mo_lowest_9 (by decide) (fun c_9 => ?_) (fun c_9 => ?_)
  · skip
    refine wp_iload_n d_Mo_lowest_20 rfl rfl ?_
    refine wp_iload d_Mo_lowest_21 rfl ?_
    refine wp_idiv d_Mo_lowest_23 hne ?_
    rw [show nI q / nI (Nat.gcd p q) = nI (q / Nat.gcd p q) from pk_div hq hg (by omega)]
    refine wp_i2l d_Mo_lowest_24 ?_
    refine wp_lreturn d_Mo_lowest_25 rfl ?_
    first | exact k0 c_9 | exact k1 c_9
  · skip
    refine wp_iload_n d_Mo_lowest_12 rfl rfl ?_
    refine wp_iload d_Mo_lowest_13 rfl ?_
    refine wp_idiv d_Mo_lowest_15 hne ?_
    rw [show nI p / nI (Nat.gcd p q) = nI (p / Nat.gcd p q) from pk_div hp hg (by omega)]
    refine wp_i2l d_Mo_lowest_16 ?_
    refine wp_goto (t := 25) d_Mo_lowest_17 (by decide) ?_
    refine wp_lreturn d_Mo_lowest_25 rfl ?_
    first | exact k0 c_9 | exact k1 c_9
end MOD
