theorem ui_uu (f : Nat → Int32) (k : Nat) (v w : Int32) : upd (upd f k v) k w = upd f k w := by
  funext j
  show (if j = k then w else if j = k then v else f j) = if j = k then w else f j
  by_cases h : j = k
  · rw [if_pos h, if_pos h]
  · rw [if_neg h, if_neg h, if_neg h]
/-! ACTS: the trace is how many bodies ran, and the first of them -/
abbrev sp_T : Type := Nat × (Nat → Int32)
def sp_bd (t : sp_T) (b : Int32) : sp_T := (t.1 + 1, if t.1 < 20 then upd t.2 t.1 b else t.2)
def sp_mth (i : Nat) (x : Int32) (t : sp_T) : Int32 × sp_T := (x + nI i, sp_bd t 10)
def sp_tho (k v : Int32) (i : Nat) (x : Int32) (t : sp_T) : Int32 × sp_T :=
  if k = 2 ∨ k = 5 then sp_mth i (x * 3) (sp_bd t 30)
  else if k = 4 then (-(sp_mth i x (sp_bd t 50)).1, (sp_mth i x (sp_bd t 50)).2)
  else if k = 6 then ((sp_mth i x (sp_bd t 71)).1 ^^^ v, (sp_mth i x (sp_bd t 71)).2)
  else sp_mth i x t
def sp_mtk (k v : Int32) (i : Nat) (x : Int32) (t : sp_T) : Int32 × sp_T := ((sp_tho k v i x (sp_bd t 11)).1 - v, (sp_tho k v i x (sp_bd t 11)).2)
def sp_stk (k v : Int32) (i : Nat) (x : Int32) (t : sp_T) : Int32 × sp_T := ((sp_mtk k v i x (sp_bd t 20)).1 ^^^ 6, (sp_mtk k v i x (sp_bd t 20)).2)
def sp_tak (k v : Int32) (i : Nat) (x : Int32) (t : sp_T) : Int32 × sp_T :=
  if k = 1 then sp_stk k v i x t
  else if k = 4 then sp_stk k v i (x + 1) (sp_bd t 51)
  else if k = 6 then ((sp_mtk k v i x (sp_bd t 70)).1 + (sp_mth i 2 (sp_mtk k v i x (sp_bd t 70)).2).1, (sp_mth i 2 (sp_mtk k v i x (sp_bd t 70)).2).2)
  else sp_mtk k v i x t
def sp_mtl (k v : Int32) (i : Nat) (x : Int32) (t : sp_T) : Int32 × sp_T := ((sp_tak k v i x (sp_bd t 12)).1 * 2, (sp_tak k v i x (sp_bd t 12)).2)
def sp_tel (k v : Int32) (i : Nat) (x : Int32) (t : sp_T) : Int32 × sp_T :=
  if k = 3 ∨ k = 6 then ((sp_mtl k v i x (sp_bd t 40)).1 + (sp_tak k v i 1 (sp_mtl k v i x (sp_bd t 40)).2).1, (sp_tak k v i 1 (sp_mtl k v i x (sp_bd t 40)).2).2)
  else if k = 5 then sp_mtl k v i (x - nI i) (sp_bd t 60)
  else sp_mtl k v i x t
theorem sp_bd_1 {t : sp_T} {b : Int32} : (sp_bd t b).1 = t.1 + 1 := rfl
theorem sp_tho_1 {k v : Int32} {i : Nat} {x : Int32} {t : sp_T} : (sp_tho k v i x t).2.1 ≤ t.1 + 2 := by
  unfold sp_tho
  split
  · exact Nat.le_refl _
  · split
    · exact Nat.le_refl _
    · split
      · exact Nat.le_refl _
      · exact Nat.le_succ _
theorem sp_mtk_1 {k v : Int32} {i : Nat} {x : Int32} {t : sp_T} : (sp_mtk k v i x t).2.1 ≤ t.1 + 3 := sp_tho_1
theorem sp_stk_1 {k v : Int32} {i : Nat} {x : Int32} {t : sp_T} : (sp_stk k v i x t).2.1 ≤ t.1 + 4 := sp_mtk_1
theorem sp_tak_1 {k v : Int32} {i : Nat} {x : Int32} {t : sp_T} : (sp_tak k v i x t).2.1 ≤ t.1 + 5 := by
  have h1 := sp_stk_1 (k := k) (v := v) (i := i) (x := x) (t := t)
  have h2 := sp_stk_1 (k := k) (v := v) (i := i) (x := x + 1) (t := sp_bd t 51)
  have h3 := sp_mtk_1 (k := k) (v := v) (i := i) (x := x) (t := sp_bd t 70)
  have h4 := sp_mtk_1 (k := k) (v := v) (i := i) (x := x) (t := t)
  rw [sp_bd_1] at h2 h3
  unfold sp_tak
  split
  · omega
  · split
    · omega
    · split
      · show (sp_mtk k v i x (sp_bd t 70)).2.1 + 1 ≤ _
        omega
      · omega
theorem sp_mtl_1 {k v : Int32} {i : Nat} {x : Int32} {t : sp_T} : (sp_mtl k v i x t).2.1 ≤ t.1 + 6 := sp_tak_1
section MOA
variable {G : px_G} {D : Nat} {X E : px_H} {I : Nat → Int32} {A : Nat → Nat → Int32} {L : Nat → Nat → Int64} {Q : Option Value → px_H → Prop}
set_option maxRecDepth 4000 in
theorem c_Mo_body {r : Nat} {f : Nat → Int32} {bb : Int32} (hD : 0 ≤ D) (hr : r < 1000) (k : Q none (HM X (upd I 64 (nI (sp_bd (r, f) bb).1)) (va_up A 65 (sp_bd (r, f) bb).2) L E)) : px_W G D 0 0 m_Mo_body 0 (px_ent 2 [.ref X.length, .int bb]) [] (HM X (upd I 64 (nI r)) (va_up A 65 f) L E) Q := by
  show px_W _ _ _ _ _ _ [some (.ref X.length), some (.int bb)] [] _ _
  refine wp_aload_n d_Mo_body_0 rfl rfl rfl ?_
  refine gM_64 rfl d_Mo_body_1 ?_
  refine wp_bipush (v := 20) d_Mo_body_4 (by decide) ?_
  refine wp_icmp_ge (t := 19) d_Mo_body_6 (by decide) (fun c_6 => ?_) (fun c_6 => ?_)
  · skip
    refine wp_aload_n d_Mo_body_19 rfl rfl rfl ?_
    refine wp_dup d_Mo_body_20 rfl ?_
    refine gM_64 rfl d_Mo_body_21 ?_
    refine wp_iconst (v := 1) d_Mo_body_24 rfl ?_
    refine wp_iadd d_Mo_body_25 ?_
    refine pM_64 rfl d_Mo_body_26 ?_
    refine wp_return d_Mo_body_29 rfl ?_
    rw [ui_uu, show upd I 64 (nI r) 64 + 1 = nI (r + 1) from nI_1 r]
    first
      | (rw [bx_uu, show (upd I 64 (nI r) 64).toNatClampNeg = r from nI_clamp (by omega)]
         have e : (if r < 20 then upd f r bb else f) = upd f r bb := if_pos ((nI_ltI (b := 20) (by omega) (by decide)).mp (Int32.not_le.mp c_6))
         rw [show (sp_bd (r, f) bb).2 = upd f r bb from e] at k
         exact k)
      | (have e : (if r < 20 then upd f r bb else f) = f := if_neg (fun z => absurd (nI_lt z (by decide)) (Int32.not_lt.mpr c_6))
         rw [show (sp_bd (r, f) bb).2 = f from e] at k
         exact k)
  · skip
    refine wp_aload_n d_Mo_body_9 rfl rfl rfl ?_
    refine gM_65 rfl d_Mo_body_10 ?_
    refine wp_aload_n d_Mo_body_13 rfl rfl rfl ?_
    refine gM_64 rfl d_Mo_body_14 ?_
    refine wp_iload_n d_Mo_body_17 rfl rfl ?_
    refine sM_65 d_Mo_body_18 (vp_in_nI ((nI_ltI (b := 20) (by omega) (by decide)).mp (Int32.not_le.mp c_6)) (by decide)) ?_
    refine wp_aload_n d_Mo_body_19 rfl rfl rfl ?_
    refine wp_dup d_Mo_body_20 rfl ?_
    refine gM_64 rfl d_Mo_body_21 ?_
    refine wp_iconst (v := 1) d_Mo_body_24 rfl ?_
    refine wp_iadd d_Mo_body_25 ?_
    refine pM_64 rfl d_Mo_body_26 ?_
    refine wp_return d_Mo_body_29 rfl ?_
    rw [ui_uu, show upd I 64 (nI r) 64 + 1 = nI (r + 1) from nI_1 r]
    first
      | (rw [bx_uu, show (upd I 64 (nI r) 64).toNatClampNeg = r from nI_clamp (by omega)]
         have e : (if r < 20 then upd f r bb else f) = upd f r bb := if_pos ((nI_ltI (b := 20) (by omega) (by decide)).mp (Int32.not_le.mp c_6))
         rw [show (sp_bd (r, f) bb).2 = upd f r bb from e] at k
         exact k)
      | (have e : (if r < 20 then upd f r bb else f) = f := if_neg (fun z => absurd (nI_lt z (by decide)) (Int32.not_lt.mpr c_6))
         rw [show (sp_bd (r, f) bb).2 = f from e] at k
         exact k)
set_option maxRecDepth 4000 in
theorem c_Mo_manThrows {r : Nat} {f : Nat → Int32} {i : Nat} {x : Int32} (hD : 1 ≤ D) (hr : r < 1000) (k : Q (some (.int (sp_mth i x (r, f)).1)) (HM X (upd I 64 (nI (sp_mth i x (r, f)).2.1)) (va_up A 65 (sp_mth i x (r, f)).2.2) L E)) : px_W G D 0 0 m_Mo_manThrows 0 (px_ent 3 [.ref X.length, .int (nI i), .int x]) [] (HM X (upd I 64 (nI r)) (va_up A 65 f) L E) Q := by
  show px_W _ _ _ _ _ _ [some (.ref X.length), some (.int (nI i)), some (.int x)] [] _ _
  refine wp_aload_n d_Mo_manThrows_0 rfl rfl rfl ?_
  refine wp_bipush (v := 10) d_Mo_manThrows_1 (by decide) ?_
  refine wp_callV (r := (R_12, T_12, 70)) (M' := m_Mo_body) (as := [_]) (D' := D - 1) (C1 := 0) (C2 := 0) (S1 := 0) (S2 := 0) d_Mo_manThrows_3 rfl w_1527 w_1529 w_64 hm_0 k_Mo_body (Nat.le_of_ble_eq_true rfl) rfl (Nat.le_of_ble_eq_true rfl) (by omega) rfl rfl ?_
  refine c_Mo_body (by omega) (by omega) ?_
  refine wp_iload_n d_Mo_manThrows_6 rfl rfl ?_
  refine wp_iload_n d_Mo_manThrows_7 rfl rfl ?_
  refine wp_iadd d_Mo_manThrows_8 ?_
  refine wp_ireturn d_Mo_manThrows_9 rfl rfl ?_
  exact k
set_option maxRecDepth 4000 in
theorem c_Mo_throwsAct {r : Nat} {f : Nat → Int32} {i : Nat} {x : Int32} (hD : 2 ≤ D) (hi : i < 6) (hr3 : r < 900) (hr : r < 1000) (k : Q (some (.int (sp_tho (A 5 i) (A 6 i) i x (r, f)).1)) (HM X (upd I 64 (nI (sp_tho (A 5 i) (A 6 i) i x (r, f)).2.1)) (va_up A 65 (sp_tho (A 5 i) (A 6 i) i x (r, f)).2.2) L E)) : px_W G D 0 0 m_Mo_throwsAct 0 (px_ent 3 [.ref X.length, .int (nI i), .int x]) [] (HM X (upd I 64 (nI r)) (va_up A 65 f) L E) Q := by
  show px_W _ _ _ _ _ _ [some (.ref X.length), some (.int (nI i)), some (.int x)] [] _ _
  refine wp_aload_n d_Mo_throwsAct_0 rfl rfl rfl ?_
  refine gM_5 rfl d_Mo_throwsAct_1 ?_
  refine wp_iload_n d_Mo_throwsAct_4 rfl rfl ?_
  refine lM_5 d_Mo_throwsAct_5 (vp_in_nI (by omega) (by decide)) ?_
  have e5 : va_up A 65 f 5 (nI i).toNatClampNeg = A 5 i := by rw [nI_clamp (by omega)]; rfl
  rw [e5]
  refine wp_topi (fun y_6 e_6 => ?_)
  by_cases s_6_2 : y_6 = 2
  · rw [s_6_2]
    refine wp_tableIn (off := 34) (t := 40) d_Mo_throwsAct_6 (by decide) (by decide) rfl (by decide) ?_
    refine wp_aload_n d_Mo_throwsAct_40 rfl rfl rfl ?_
    refine wp_bipush (v := 30) d_Mo_throwsAct_41 (by decide) ?_
    refine wp_callV (r := (R_12, T_12, 70)) (M' := m_Mo_body) (as := [_]) (D' := D - 1) (C1 := 0) (C2 := 0) (S1 := 0) (S2 := 0) d_Mo_throwsAct_43 rfl w_1527 w_1529 w_64 hm_0 k_Mo_body (Nat.le_of_ble_eq_true rfl) rfl (Nat.le_of_ble_eq_true rfl) (by omega) rfl rfl ?_
    refine c_Mo_body (by omega) (by omega) ?_
    refine wp_aload_n d_Mo_throwsAct_46 rfl rfl rfl ?_
    refine wp_iload_n d_Mo_throwsAct_47 rfl rfl ?_
    refine wp_iload_n d_Mo_throwsAct_48 rfl rfl ?_
    refine wp_iconst (v := 3) d_Mo_throwsAct_49 rfl ?_
    refine wp_imul d_Mo_throwsAct_50 ?_
    refine wp_callV (r := (R_12, T_12, 70)) (M' := m_Mo_manThrows) (as := [_, _]) (D' := D - 1) (C1 := 0) (C2 := 0) (S1 := 0) (S2 := 0) d_Mo_throwsAct_51 rfl w_1531 w_1533 w_65 hm_0 k_Mo_manThrows (Nat.le_of_ble_eq_true rfl) rfl (Nat.le_of_ble_eq_true rfl) (by omega) rfl rfl ?_
    refine c_Mo_manThrows (by omega) (by first | omega | (show r + 1 < 1000; omega)) ?_
    refine wp_ireturn d_Mo_throwsAct_54 rfl rfl ?_
    rw [show sp_tho (A 5 i) (A 6 i) i x (r, f) = _ from if_pos (by first | exact Or.inl (e_6.symm.trans s_6_2) | exact Or.inr (e_6.symm.trans s_6_5))] at k
    exact k
  by_cases s_6_3 : y_6 = 3
  · rw [s_6_3]
    refine wp_tableIn (off := 83) (t := 89) d_Mo_throwsAct_6 (by decide) (by decide) rfl (by decide) ?_
    refine wp_aload_n d_Mo_throwsAct_89 rfl rfl rfl ?_
    refine wp_iload_n d_Mo_throwsAct_90 rfl rfl ?_
    refine wp_iload_n d_Mo_throwsAct_91 rfl rfl ?_
    refine wp_callV (r := (R_12, T_12, 70)) (M' := m_Mo_manThrows) (as := [_, _]) (D' := D - 1) (C1 := 0) (C2 := 0) (S1 := 0) (S2 := 0) d_Mo_throwsAct_92 rfl w_1531 w_1533 w_65 hm_0 k_Mo_manThrows (Nat.le_of_ble_eq_true rfl) rfl (Nat.le_of_ble_eq_true rfl) (by omega) rfl rfl ?_
    refine c_Mo_manThrows (by omega) (by first | omega | (show r + 1 < 1000; omega)) ?_
    refine wp_ireturn d_Mo_throwsAct_95 rfl rfl ?_
    first
      | (rw [show sp_tho (A 5 i) (A 6 i) i x (r, f) = _ from (if_neg (by rw [show A 5 i = 3 from e_6.symm.trans s_6_3]; decide)).trans ((if_neg (by rw [show A 5 i = 3 from e_6.symm.trans s_6_3]; decide)).trans (if_neg (by rw [show A 5 i = 3 from e_6.symm.trans s_6_3]; decide)))] at k
         exact k)
      | (rw [show sp_tho (A 5 i) (A 6 i) i x (r, f) = _ from (if_neg (fun z => z.elim (fun z => s_6_2 (e_6.trans z)) (fun z => s_6_5 (e_6.trans z)))).trans ((if_neg (fun z => s_6_4 (e_6.trans z))).trans (if_neg (fun z => s_6_6 (e_6.trans z))))] at k
         exact k)
  by_cases s_6_4 : y_6 = 4
  · rw [s_6_4]
    refine wp_tableIn (off := 49) (t := 55) d_Mo_throwsAct_6 (by decide) (by decide) rfl (by decide) ?_
    refine wp_aload_n d_Mo_throwsAct_55 rfl rfl rfl ?_
    refine wp_bipush (v := 50) d_Mo_throwsAct_56 (by decide) ?_
    refine wp_callV (r := (R_12, T_12, 70)) (M' := m_Mo_body) (as := [_]) (D' := D - 1) (C1 := 0) (C2 := 0) (S1 := 0) (S2 := 0) d_Mo_throwsAct_58 rfl w_1527 w_1529 w_64 hm_0 k_Mo_body (Nat.le_of_ble_eq_true rfl) rfl (Nat.le_of_ble_eq_true rfl) (by omega) rfl rfl ?_
    refine c_Mo_body (by omega) (by omega) ?_
    refine wp_aload_n d_Mo_throwsAct_61 rfl rfl rfl ?_
    refine wp_iload_n d_Mo_throwsAct_62 rfl rfl ?_
    refine wp_iload_n d_Mo_throwsAct_63 rfl rfl ?_
    refine wp_callV (r := (R_12, T_12, 70)) (M' := m_Mo_manThrows) (as := [_, _]) (D' := D - 1) (C1 := 0) (C2 := 0) (S1 := 0) (S2 := 0) d_Mo_throwsAct_64 rfl w_1531 w_1533 w_65 hm_0 k_Mo_manThrows (Nat.le_of_ble_eq_true rfl) rfl (Nat.le_of_ble_eq_true rfl) (by omega) rfl rfl ?_
    refine c_Mo_manThrows (by omega) (by first | omega | (show r + 1 < 1000; omega)) ?_
    refine wp_ineg d_Mo_throwsAct_67 ?_
    refine wp_ireturn d_Mo_throwsAct_68 rfl rfl ?_
    rw [show sp_tho (A 5 i) (A 6 i) i x (r, f) = _ from (if_neg (by rw [show A 5 i = 4 from e_6.symm.trans s_6_4]; decide)).trans (if_pos (e_6.symm.trans s_6_4))] at k
    exact k
  by_cases s_6_5 : y_6 = 5
  · rw [s_6_5]
    refine wp_tableIn (off := 34) (t := 40) d_Mo_throwsAct_6 (by decide) (by decide) rfl (by decide) ?_
    refine wp_aload_n d_Mo_throwsAct_40 rfl rfl rfl ?_
    refine wp_bipush (v := 30) d_Mo_throwsAct_41 (by decide) ?_
    refine wp_callV (r := (R_12, T_12, 70)) (M' := m_Mo_body) (as := [_]) (D' := D - 1) (C1 := 0) (C2 := 0) (S1 := 0) (S2 := 0) d_Mo_throwsAct_43 rfl w_1527 w_1529 w_64 hm_0 k_Mo_body (Nat.le_of_ble_eq_true rfl) rfl (Nat.le_of_ble_eq_true rfl) (by omega) rfl rfl ?_
    refine c_Mo_body (by omega) (by omega) ?_
    refine wp_aload_n d_Mo_throwsAct_46 rfl rfl rfl ?_
    refine wp_iload_n d_Mo_throwsAct_47 rfl rfl ?_
    refine wp_iload_n d_Mo_throwsAct_48 rfl rfl ?_
    refine wp_iconst (v := 3) d_Mo_throwsAct_49 rfl ?_
    refine wp_imul d_Mo_throwsAct_50 ?_
    refine wp_callV (r := (R_12, T_12, 70)) (M' := m_Mo_manThrows) (as := [_, _]) (D' := D - 1) (C1 := 0) (C2 := 0) (S1 := 0) (S2 := 0) d_Mo_throwsAct_51 rfl w_1531 w_1533 w_65 hm_0 k_Mo_manThrows (Nat.le_of_ble_eq_true rfl) rfl (Nat.le_of_ble_eq_true rfl) (by omega) rfl rfl ?_
    refine c_Mo_manThrows (by omega) (by first | omega | (show r + 1 < 1000; omega)) ?_
    refine wp_ireturn d_Mo_throwsAct_54 rfl rfl ?_
    rw [show sp_tho (A 5 i) (A 6 i) i x (r, f) = _ from if_pos (by first | exact Or.inl (e_6.symm.trans s_6_2) | exact Or.inr (e_6.symm.trans s_6_5))] at k
    exact k
  by_cases s_6_6 : y_6 = 6
  · rw [s_6_6]
    refine wp_tableIn (off := 63) (t := 69) d_Mo_throwsAct_6 (by decide) (by decide) rfl (by decide) ?_
    refine wp_aload_n d_Mo_throwsAct_69 rfl rfl rfl ?_
    refine wp_bipush (v := 71) d_Mo_throwsAct_70 (by decide) ?_
    refine wp_callV (r := (R_12, T_12, 70)) (M' := m_Mo_body) (as := [_]) (D' := D - 1) (C1 := 0) (C2 := 0) (S1 := 0) (S2 := 0) d_Mo_throwsAct_72 rfl w_1527 w_1529 w_64 hm_0 k_Mo_body (Nat.le_of_ble_eq_true rfl) rfl (Nat.le_of_ble_eq_true rfl) (by omega) rfl rfl ?_
    refine c_Mo_body (by omega) (by omega) ?_
    refine wp_aload_n d_Mo_throwsAct_75 rfl rfl rfl ?_
    refine wp_iload_n d_Mo_throwsAct_76 rfl rfl ?_
    refine wp_iload_n d_Mo_throwsAct_77 rfl rfl ?_
    refine wp_callV (r := (R_12, T_12, 70)) (M' := m_Mo_manThrows) (as := [_, _]) (D' := D - 1) (C1 := 0) (C2 := 0) (S1 := 0) (S2 := 0) d_Mo_throwsAct_78 rfl w_1531 w_1533 w_65 hm_0 k_Mo_manThrows (Nat.le_of_ble_eq_true rfl) rfl (Nat.le_of_ble_eq_true rfl) (by omega) rfl rfl ?_
    refine c_Mo_manThrows (by omega) (by first | omega | (show r + 1 < 1000; omega)) ?_
    refine wp_aload_n d_Mo_throwsAct_81 rfl rfl rfl ?_
    refine gM_6 rfl d_Mo_throwsAct_82 ?_
    refine wp_iload_n d_Mo_throwsAct_85 rfl rfl ?_
    refine lM_6 d_Mo_throwsAct_86 (vp_in_nI (by omega) (by decide)) ?_
    rw [nI_clamp (by omega)]
    refine wp_ixor d_Mo_throwsAct_87 ?_
    refine wp_ireturn d_Mo_throwsAct_88 rfl rfl ?_
    rw [show sp_tho (A 5 i) (A 6 i) i x (r, f) = _ from (if_neg (by rw [show A 5 i = 6 from e_6.symm.trans s_6_6]; decide)).trans ((if_neg (by rw [show A 5 i = 6 from e_6.symm.trans s_6_6]; decide)).trans (if_pos (e_6.symm.trans s_6_6)))] at k
    exact k
  have n_6_2 : y_6.toInt ≠ 2 := lv_neT s_6_2 rfl
  have n_6_3 : y_6.toInt ≠ 3 := lv_neT s_6_3 rfl
  have n_6_4 : y_6.toInt ≠ 4 := lv_neT s_6_4 rfl
  have n_6_5 : y_6.toInt ≠ 5 := lv_neT s_6_5 rfl
  have n_6_6 : y_6.toInt ≠ 6 := lv_neT s_6_6 rfl
  refine wp_tableOut (t := 89) d_Mo_throwsAct_6 (by omega) (by decide) ?_
  refine wp_aload_n d_Mo_throwsAct_89 rfl rfl rfl ?_
  refine wp_iload_n d_Mo_throwsAct_90 rfl rfl ?_
  refine wp_iload_n d_Mo_throwsAct_91 rfl rfl ?_
  refine wp_callV (r := (R_12, T_12, 70)) (M' := m_Mo_manThrows) (as := [_, _]) (D' := D - 1) (C1 := 0) (C2 := 0) (S1 := 0) (S2 := 0) d_Mo_throwsAct_92 rfl w_1531 w_1533 w_65 hm_0 k_Mo_manThrows (Nat.le_of_ble_eq_true rfl) rfl (Nat.le_of_ble_eq_true rfl) (by omega) rfl rfl ?_
  refine c_Mo_manThrows (by omega) (by first | omega | (show r + 1 < 1000; omega)) ?_
  refine wp_ireturn d_Mo_throwsAct_95 rfl rfl ?_
  first
    | (rw [show sp_tho (A 5 i) (A 6 i) i x (r, f) = _ from (if_neg (by rw [show A 5 i = 3 from e_6.symm.trans s_6_3]; decide)).trans ((if_neg (by rw [show A 5 i = 3 from e_6.symm.trans s_6_3]; decide)).trans (if_neg (by rw [show A 5 i = 3 from e_6.symm.trans s_6_3]; decide)))] at k
       exact k)
    | (rw [show sp_tho (A 5 i) (A 6 i) i x (r, f) = _ from (if_neg (fun z => z.elim (fun z => s_6_2 (e_6.trans z)) (fun z => s_6_5 (e_6.trans z)))).trans ((if_neg (fun z => s_6_4 (e_6.trans z))).trans (if_neg (fun z => s_6_6 (e_6.trans z))))] at k
       exact k)
set_option maxRecDepth 4000 in
theorem c_Mo_manTakes {r : Nat} {f : Nat → Int32} {i : Nat} {x : Int32} (hD : 3 ≤ D) (hi : i < 6) (hr3 : r < 800) (hr : r < 1000) (k : Q (some (.int (sp_mtk (A 5 i) (A 6 i) i x (r, f)).1)) (HM X (upd I 64 (nI (sp_mtk (A 5 i) (A 6 i) i x (r, f)).2.1)) (va_up A 65 (sp_mtk (A 5 i) (A 6 i) i x (r, f)).2.2) L E)) : px_W G D 0 0 m_Mo_manTakes 0 (px_ent 3 [.ref X.length, .int (nI i), .int x]) [] (HM X (upd I 64 (nI r)) (va_up A 65 f) L E) Q := by
  show px_W _ _ _ _ _ _ [some (.ref X.length), some (.int (nI i)), some (.int x)] [] _ _
  refine wp_aload_n d_Mo_manTakes_0 rfl rfl rfl ?_
  refine wp_bipush (v := 11) d_Mo_manTakes_1 (by decide) ?_
  refine wp_callV (r := (R_12, T_12, 70)) (M' := m_Mo_body) (as := [_]) (D' := D - 1) (C1 := 0) (C2 := 0) (S1 := 0) (S2 := 0) d_Mo_manTakes_3 rfl w_1527 w_1529 w_64 hm_0 k_Mo_body (Nat.le_of_ble_eq_true rfl) rfl (Nat.le_of_ble_eq_true rfl) (by omega) rfl rfl ?_
  refine c_Mo_body (by omega) (by omega) ?_
  refine wp_aload_n d_Mo_manTakes_6 rfl rfl rfl ?_
  refine wp_iload_n d_Mo_manTakes_7 rfl rfl ?_
  refine wp_iload_n d_Mo_manTakes_8 rfl rfl ?_
  refine wp_callV (r := (R_12, T_12, 70)) (M' := m_Mo_throwsAct) (as := [_, _]) (D' := D - 1) (C1 := 0) (C2 := 0) (S1 := 0) (S2 := 0) d_Mo_manTakes_9 rfl w_1523 w_1525 w_63 hm_0 k_Mo_throwsAct (Nat.le_of_ble_eq_true rfl) rfl (Nat.le_of_ble_eq_true rfl) (by omega) rfl rfl ?_
  refine c_Mo_throwsAct (by omega) hi (by show r + 1 < 900; omega) (by show r + 1 < 1000; omega) ?_
  refine wp_aload_n d_Mo_manTakes_12 rfl rfl rfl ?_
  refine gM_6 rfl d_Mo_manTakes_13 ?_
  refine wp_iload_n d_Mo_manTakes_16 rfl rfl ?_
  refine lM_6 d_Mo_manTakes_17 (vp_in_nI (by omega) (by decide)) ?_
  rw [nI_clamp (by omega)]
  refine wp_isub d_Mo_manTakes_18 ?_
  refine wp_ireturn d_Mo_manTakes_19 rfl rfl ?_
  exact k
set_option maxRecDepth 4000 in
theorem c_Mo_strongTakes {r : Nat} {f : Nat → Int32} {i : Nat} {x : Int32} (hD : 4 ≤ D) (hi : i < 6) (hr3 : r < 700) (hr : r < 1000) (k : Q (some (.int (sp_stk (A 5 i) (A 6 i) i x (r, f)).1)) (HM X (upd I 64 (nI (sp_stk (A 5 i) (A 6 i) i x (r, f)).2.1)) (va_up A 65 (sp_stk (A 5 i) (A 6 i) i x (r, f)).2.2) L E)) : px_W G D 0 0 m_Mo_strongTakes 0 (px_ent 3 [.ref X.length, .int (nI i), .int x]) [] (HM X (upd I 64 (nI r)) (va_up A 65 f) L E) Q := by
  show px_W _ _ _ _ _ _ [some (.ref X.length), some (.int (nI i)), some (.int x)] [] _ _
  refine wp_aload_n d_Mo_strongTakes_0 rfl rfl rfl ?_
  refine wp_bipush (v := 20) d_Mo_strongTakes_1 (by decide) ?_
  refine wp_callV (r := (R_12, T_12, 70)) (M' := m_Mo_body) (as := [_]) (D' := D - 1) (C1 := 0) (C2 := 0) (S1 := 0) (S2 := 0) d_Mo_strongTakes_3 rfl w_1527 w_1529 w_64 hm_0 k_Mo_body (Nat.le_of_ble_eq_true rfl) rfl (Nat.le_of_ble_eq_true rfl) (by omega) rfl rfl ?_
  refine c_Mo_body (by omega) (by omega) ?_
  refine wp_aload_n d_Mo_strongTakes_6 rfl rfl rfl ?_
  refine wp_iload_n d_Mo_strongTakes_7 rfl rfl ?_
  refine wp_iload_n d_Mo_strongTakes_8 rfl rfl ?_
  refine wp_callV (r := (R_12, T_12, 70)) (M' := m_Mo_manTakes) (as := [_, _]) (D' := D - 1) (C1 := 0) (C2 := 0) (S1 := 0) (S2 := 0) d_Mo_strongTakes_9 rfl w_1543 w_1545 w_68 hm_0 k_Mo_manTakes (Nat.le_of_ble_eq_true rfl) rfl (Nat.le_of_ble_eq_true rfl) (by omega) rfl rfl ?_
  refine c_Mo_manTakes (by omega) hi (by show r + 1 < 800; omega) (by show r + 1 < 1000; omega) ?_
  refine wp_bipush (v := 6) d_Mo_strongTakes_12 (by decide) ?_
  refine wp_ixor d_Mo_strongTakes_14 ?_
  refine wp_ireturn d_Mo_strongTakes_15 rfl rfl ?_
  exact k
set_option maxRecDepth 4000 in
theorem c_Mo_takesAct {r : Nat} {f : Nat → Int32} {i : Nat} {x : Int32} (hD : 5 ≤ D) (hi : i < 6) (hr3 : r < 600) (hr : r < 1000) (k : Q (some (.int (sp_tak (A 5 i) (A 6 i) i x (r, f)).1)) (HM X (upd I 64 (nI (sp_tak (A 5 i) (A 6 i) i x (r, f)).2.1)) (va_up A 65 (sp_tak (A 5 i) (A 6 i) i x (r, f)).2.2) L E)) : px_W G D 0 0 m_Mo_takesAct 0 (px_ent 4 [.ref X.length, .int (nI i), .int x]) [] (HM X (upd I 64 (nI r)) (va_up A 65 f) L E) Q := by
  show px_W _ _ _ _ _ _ [some (.ref X.length), some (.int (nI i)), some (.int x), none] [] _ _
  refine wp_aload_n d_Mo_takesAct_0 rfl rfl rfl ?_
  refine gM_5 rfl d_Mo_takesAct_1 ?_
  refine wp_iload_n d_Mo_takesAct_4 rfl rfl ?_
  refine lM_5 d_Mo_takesAct_5 (vp_in_nI (by omega) (by decide)) ?_
  have e5 : va_up A 65 f 5 (nI i).toNatClampNeg = A 5 i := by rw [nI_clamp (by omega)]; rfl
  rw [e5]
  refine wp_topi (fun y_6 e_6 => ?_)
  by_cases s_6_1 : y_6 = 1
  · rw [s_6_1]
    refine wp_lookup (off := 34) (t := 40) d_Mo_takesAct_6 (by decide) (by decide) (by decide) ?_
    refine wp_aload_n d_Mo_takesAct_40 rfl rfl rfl ?_
    refine wp_iload_n d_Mo_takesAct_41 rfl rfl ?_
    refine wp_iload_n d_Mo_takesAct_42 rfl rfl ?_
    refine wp_callV (r := (R_12, T_12, 70)) (M' := m_Mo_strongTakes) (as := [_, _]) (D' := D - 1) (C1 := 0) (C2 := 0) (S1 := 0) (S2 := 0) d_Mo_takesAct_43 rfl w_1539 w_1541 w_67 hm_0 k_Mo_strongTakes (Nat.le_of_ble_eq_true rfl) rfl (Nat.le_of_ble_eq_true rfl) (by omega) rfl rfl ?_
    refine c_Mo_strongTakes (by omega) hi (by first | omega | (show r + 1 < 700; omega)) (by first | omega | (show r + 1 < 1000; omega)) ?_
    refine wp_ireturn d_Mo_takesAct_46 rfl rfl ?_
    rw [show sp_tak (A 5 i) (A 6 i) i x (r, f) = _ from if_pos (e_6.symm.trans s_6_1)] at k
    exact k
  by_cases s_6_4 : y_6 = 4
  · rw [s_6_4]
    refine wp_lookup (off := 41) (t := 47) d_Mo_takesAct_6 (by decide) (by decide) (by decide) ?_
    refine wp_aload_n d_Mo_takesAct_47 rfl rfl rfl ?_
    refine wp_bipush (v := 51) d_Mo_takesAct_48 (by decide) ?_
    refine wp_callV (r := (R_12, T_12, 70)) (M' := m_Mo_body) (as := [_]) (D' := D - 1) (C1 := 0) (C2 := 0) (S1 := 0) (S2 := 0) d_Mo_takesAct_50 rfl w_1527 w_1529 w_64 hm_0 k_Mo_body (Nat.le_of_ble_eq_true rfl) rfl (Nat.le_of_ble_eq_true rfl) (by omega) rfl rfl ?_
    refine c_Mo_body (by omega) (by omega) ?_
    refine wp_aload_n d_Mo_takesAct_53 rfl rfl rfl ?_
    refine wp_iload_n d_Mo_takesAct_54 rfl rfl ?_
    refine wp_iload_n d_Mo_takesAct_55 rfl rfl ?_
    refine wp_iconst (v := 1) d_Mo_takesAct_56 rfl ?_
    refine wp_iadd d_Mo_takesAct_57 ?_
    refine wp_callV (r := (R_12, T_12, 70)) (M' := m_Mo_strongTakes) (as := [_, _]) (D' := D - 1) (C1 := 0) (C2 := 0) (S1 := 0) (S2 := 0) d_Mo_takesAct_58 rfl w_1539 w_1541 w_67 hm_0 k_Mo_strongTakes (Nat.le_of_ble_eq_true rfl) rfl (Nat.le_of_ble_eq_true rfl) (by omega) rfl rfl ?_
    refine c_Mo_strongTakes (by omega) hi (by first | omega | (show r + 1 < 700; omega)) (by first | omega | (show r + 1 < 1000; omega)) ?_
    refine wp_ireturn d_Mo_takesAct_61 rfl rfl ?_
    rw [show sp_tak (A 5 i) (A 6 i) i x (r, f) = _ from (if_neg (by rw [show A 5 i = 4 from e_6.symm.trans s_6_4]; decide)).trans (if_pos (e_6.symm.trans s_6_4))] at k
    exact k
  by_cases s_6_6 : y_6 = 6
  · rw [s_6_6]
    refine wp_lookup (off := 56) (t := 62) d_Mo_takesAct_6 (by decide) (by decide) (by decide) ?_
    refine wp_aload_n d_Mo_takesAct_62 rfl rfl rfl ?_
    refine wp_bipush (v := 70) d_Mo_takesAct_63 (by decide) ?_
    refine wp_callV (r := (R_12, T_12, 70)) (M' := m_Mo_body) (as := [_]) (D' := D - 1) (C1 := 0) (C2 := 0) (S1 := 0) (S2 := 0) d_Mo_takesAct_65 rfl w_1527 w_1529 w_64 hm_0 k_Mo_body (Nat.le_of_ble_eq_true rfl) rfl (Nat.le_of_ble_eq_true rfl) (by omega) rfl rfl ?_
    refine c_Mo_body (by omega) (by omega) ?_
    refine wp_aload_n d_Mo_takesAct_68 rfl rfl rfl ?_
    refine wp_iload_n d_Mo_takesAct_69 rfl rfl ?_
    refine wp_iload_n d_Mo_takesAct_70 rfl rfl ?_
    refine wp_callV (r := (R_12, T_12, 70)) (M' := m_Mo_manTakes) (as := [_, _]) (D' := D - 1) (C1 := 0) (C2 := 0) (S1 := 0) (S2 := 0) d_Mo_takesAct_71 rfl w_1543 w_1545 w_68 hm_0 k_Mo_manTakes (Nat.le_of_ble_eq_true rfl) rfl (Nat.le_of_ble_eq_true rfl) (by omega) rfl rfl ?_
    refine c_Mo_manTakes (by omega) hi (by first | omega | (show r + 1 < 800; omega)) (by first | omega | (show r + 1 < 1000; omega)) ?_
    refine wp_istore_n (ls' := [_, _, _, _]) d_Mo_takesAct_74 rfl (by decide) rfl ?_
    refine wp_iload_n d_Mo_takesAct_75 rfl rfl ?_
    refine wp_aload_n d_Mo_takesAct_76 rfl rfl rfl ?_
    refine wp_iload_n d_Mo_takesAct_77 rfl rfl ?_
    refine wp_iconst (v := 2) d_Mo_takesAct_78 rfl ?_
    refine wp_callV (r := (R_12, T_12, 70)) (M' := m_Mo_manThrows) (as := [_, _]) (D' := D - 1) (C1 := 0) (C2 := 0) (S1 := 0) (S2 := 0) d_Mo_takesAct_79 rfl w_1531 w_1533 w_65 hm_0 k_Mo_manThrows (Nat.le_of_ble_eq_true rfl) rfl (Nat.le_of_ble_eq_true rfl) (by omega) rfl rfl ?_
    refine c_Mo_manThrows (by omega) (by have := sp_mtk_1 (k := A 5 i) (v := A 6 i) (i := i) (x := x) (t := sp_bd (r, f) 70); rw [sp_bd_1] at this; exact Nat.lt_of_le_of_lt this (by show r + 1 + 3 < 1000; omega)) ?_
    refine wp_iadd d_Mo_takesAct_82 ?_
    refine wp_ireturn d_Mo_takesAct_83 rfl rfl ?_
    rw [show sp_tak (A 5 i) (A 6 i) i x (r, f) = _ from (if_neg (by rw [show A 5 i = 6 from e_6.symm.trans s_6_6]; decide)).trans ((if_neg (by rw [show A 5 i = 6 from e_6.symm.trans s_6_6]; decide)).trans (if_pos (e_6.symm.trans s_6_6)))] at k
    exact k
  refine wp_lookup (off := 78) (t := 84) d_Mo_takesAct_6 (by decide) (by refine (lv_osw s_6_1 rfl).trans ?_; refine (lv_osw s_6_4 rfl).trans ?_; refine (lv_osw s_6_6 rfl).trans ?_; rfl) (by decide) ?_
  refine wp_aload_n d_Mo_takesAct_84 rfl rfl rfl ?_
  refine wp_iload_n d_Mo_takesAct_85 rfl rfl ?_
  refine wp_iload_n d_Mo_takesAct_86 rfl rfl ?_
  refine wp_callV (r := (R_12, T_12, 70)) (M' := m_Mo_manTakes) (as := [_, _]) (D' := D - 1) (C1 := 0) (C2 := 0) (S1 := 0) (S2 := 0) d_Mo_takesAct_87 rfl w_1543 w_1545 w_68 hm_0 k_Mo_manTakes (Nat.le_of_ble_eq_true rfl) rfl (Nat.le_of_ble_eq_true rfl) (by omega) rfl rfl ?_
  refine c_Mo_manTakes (by omega) hi (by first | omega | (show r + 1 < 800; omega)) (by first | omega | (show r + 1 < 1000; omega)) ?_
  refine wp_ireturn d_Mo_takesAct_90 rfl rfl ?_
  rw [show sp_tak (A 5 i) (A 6 i) i x (r, f) = _ from (if_neg (fun z => s_6_1 (e_6.trans z))).trans ((if_neg (fun z => s_6_4 (e_6.trans z))).trans (if_neg (fun z => s_6_6 (e_6.trans z))))] at k
  exact k
set_option maxRecDepth 4000 in
theorem c_Mo_manTells {r : Nat} {f : Nat → Int32} {i : Nat} {x : Int32} (hD : 6 ≤ D) (hi : i < 6) (hr3 : r < 500) (hr : r < 1000) (k : Q (some (.int (sp_mtl (A 5 i) (A 6 i) i x (r, f)).1)) (HM X (upd I 64 (nI (sp_mtl (A 5 i) (A 6 i) i x (r, f)).2.1)) (va_up A 65 (sp_mtl (A 5 i) (A 6 i) i x (r, f)).2.2) L E)) : px_W G D 0 0 m_Mo_manTells 0 (px_ent 3 [.ref X.length, .int (nI i), .int x]) [] (HM X (upd I 64 (nI r)) (va_up A 65 f) L E) Q := by
  show px_W _ _ _ _ _ _ [some (.ref X.length), some (.int (nI i)), some (.int x)] [] _ _
  refine wp_aload_n d_Mo_manTells_0 rfl rfl rfl ?_
  refine wp_bipush (v := 12) d_Mo_manTells_1 (by decide) ?_
  refine wp_callV (r := (R_12, T_12, 70)) (M' := m_Mo_body) (as := [_]) (D' := D - 1) (C1 := 0) (C2 := 0) (S1 := 0) (S2 := 0) d_Mo_manTells_3 rfl w_1527 w_1529 w_64 hm_0 k_Mo_body (Nat.le_of_ble_eq_true rfl) rfl (Nat.le_of_ble_eq_true rfl) (by omega) rfl rfl ?_
  refine c_Mo_body (by omega) (by omega) ?_
  refine wp_aload_n d_Mo_manTells_6 rfl rfl rfl ?_
  refine wp_iload_n d_Mo_manTells_7 rfl rfl ?_
  refine wp_iload_n d_Mo_manTells_8 rfl rfl ?_
  refine wp_callV (r := (R_12, T_12, 70)) (M' := m_Mo_takesAct) (as := [_, _]) (D' := D - 1) (C1 := 0) (C2 := 0) (S1 := 0) (S2 := 0) d_Mo_manTells_9 rfl w_1535 w_1537 w_66 hm_0 k_Mo_takesAct (Nat.le_of_ble_eq_true rfl) rfl (Nat.le_of_ble_eq_true rfl) (by omega) rfl rfl ?_
  refine c_Mo_takesAct (by omega) hi (by show r + 1 < 600; omega) (by show r + 1 < 1000; omega) ?_
  refine wp_iconst (v := 2) d_Mo_manTells_12 rfl ?_
  refine wp_imul d_Mo_manTells_13 ?_
  refine wp_ireturn d_Mo_manTells_14 rfl rfl ?_
  exact k
set_option maxRecDepth 4000 in
theorem c_Mo_tellsAct {r : Nat} {f : Nat → Int32} {i : Nat} {x : Int32} (hD : 7 ≤ D) (hi : i < 6) (hr3 : r < 400) (hr : r < 1000) (k : Q (some (.int (sp_tel (A 5 i) (A 6 i) i x (r, f)).1)) (HM X (upd I 64 (nI (sp_tel (A 5 i) (A 6 i) i x (r, f)).2.1)) (va_up A 65 (sp_tel (A 5 i) (A 6 i) i x (r, f)).2.2) L E)) : px_W G D 0 0 m_Mo_tellsAct 0 (px_ent 4 [.ref X.length, .int (nI i), .int x]) [] (HM X (upd I 64 (nI r)) (va_up A 65 f) L E) Q := by
  show px_W _ _ _ _ _ _ [some (.ref X.length), some (.int (nI i)), some (.int x), none] [] _ _
  refine wp_aload_n d_Mo_tellsAct_0 rfl rfl rfl ?_
  refine gM_5 rfl d_Mo_tellsAct_1 ?_
  refine wp_iload_n d_Mo_tellsAct_4 rfl rfl ?_
  refine lM_5 d_Mo_tellsAct_5 (vp_in_nI (by omega) (by decide)) ?_
  have e5 : va_up A 65 f 5 (nI i).toNatClampNeg = A 5 i := by rw [nI_clamp (by omega)]; rfl
  rw [e5]
  refine wp_topi (fun y_6 e_6 => ?_)
  by_cases s_6_3 : y_6 = 3
  · rw [s_6_3]
    refine wp_tableIn (off := 30) (t := 36) d_Mo_tellsAct_6 (by decide) (by decide) rfl (by decide) ?_
    refine wp_aload_n d_Mo_tellsAct_36 rfl rfl rfl ?_
    refine wp_bipush (v := 40) d_Mo_tellsAct_37 (by decide) ?_
    refine wp_callV (r := (R_12, T_12, 70)) (M' := m_Mo_body) (as := [_]) (D' := D - 1) (C1 := 0) (C2 := 0) (S1 := 0) (S2 := 0) d_Mo_tellsAct_39 rfl w_1527 w_1529 w_64 hm_0 k_Mo_body (Nat.le_of_ble_eq_true rfl) rfl (Nat.le_of_ble_eq_true rfl) (by omega) rfl rfl ?_
    refine c_Mo_body (by omega) (by omega) ?_
    refine wp_aload_n d_Mo_tellsAct_42 rfl rfl rfl ?_
    refine wp_iload_n d_Mo_tellsAct_43 rfl rfl ?_
    refine wp_iload_n d_Mo_tellsAct_44 rfl rfl ?_
    refine wp_callV (r := (R_12, T_12, 70)) (M' := m_Mo_manTells) (as := [_, _]) (D' := D - 1) (C1 := 0) (C2 := 0) (S1 := 0) (S2 := 0) d_Mo_tellsAct_45 rfl w_1551 w_1553 w_70 hm_0 k_Mo_manTells (Nat.le_of_ble_eq_true rfl) rfl (Nat.le_of_ble_eq_true rfl) (by omega) rfl rfl ?_
    refine c_Mo_manTells (by omega) hi (by first | omega | (show r + 1 < 500; omega)) (by first | omega | (show r + 1 < 1000; omega)) ?_
    refine wp_istore_n (ls' := [_, _, _, _]) d_Mo_tellsAct_48 rfl (by decide) rfl ?_
    refine wp_iload_n d_Mo_tellsAct_49 rfl rfl ?_
    refine wp_aload_n d_Mo_tellsAct_50 rfl rfl rfl ?_
    refine wp_iload_n d_Mo_tellsAct_51 rfl rfl ?_
    refine wp_iconst (v := 1) d_Mo_tellsAct_52 rfl ?_
    refine wp_callV (r := (R_12, T_12, 70)) (M' := m_Mo_takesAct) (as := [_, _]) (D' := D - 1) (C1 := 0) (C2 := 0) (S1 := 0) (S2 := 0) d_Mo_tellsAct_53 rfl w_1535 w_1537 w_66 hm_0 k_Mo_takesAct (Nat.le_of_ble_eq_true rfl) rfl (Nat.le_of_ble_eq_true rfl) (by omega) rfl rfl ?_
    refine c_Mo_takesAct (by omega) hi (by have := sp_mtl_1 (k := A 5 i) (v := A 6 i) (i := i) (x := x) (t := sp_bd (r, f) 40); rw [sp_bd_1] at this; exact Nat.lt_of_le_of_lt this (by show r + 1 + 6 < 600; omega)) (by have := sp_mtl_1 (k := A 5 i) (v := A 6 i) (i := i) (x := x) (t := sp_bd (r, f) 40); rw [sp_bd_1] at this; exact Nat.lt_of_le_of_lt this (by show r + 1 + 6 < 1000; omega)) ?_
    refine wp_iadd d_Mo_tellsAct_56 ?_
    refine wp_ireturn d_Mo_tellsAct_57 rfl rfl ?_
    rw [show sp_tel (A 5 i) (A 6 i) i x (r, f) = _ from if_pos (by first | exact Or.inl (e_6.symm.trans s_6_3) | exact Or.inr (e_6.symm.trans s_6_6))] at k
    exact k
  by_cases s_6_4 : y_6 = 4
  · rw [s_6_4]
    refine wp_tableIn (off := 67) (t := 73) d_Mo_tellsAct_6 (by decide) (by decide) rfl (by decide) ?_
    refine wp_aload_n d_Mo_tellsAct_73 rfl rfl rfl ?_
    refine wp_iload_n d_Mo_tellsAct_74 rfl rfl ?_
    refine wp_iload_n d_Mo_tellsAct_75 rfl rfl ?_
    refine wp_callV (r := (R_12, T_12, 70)) (M' := m_Mo_manTells) (as := [_, _]) (D' := D - 1) (C1 := 0) (C2 := 0) (S1 := 0) (S2 := 0) d_Mo_tellsAct_76 rfl w_1551 w_1553 w_70 hm_0 k_Mo_manTells (Nat.le_of_ble_eq_true rfl) rfl (Nat.le_of_ble_eq_true rfl) (by omega) rfl rfl ?_
    refine c_Mo_manTells (by omega) hi (by first | omega | (show r + 1 < 500; omega)) (by first | omega | (show r + 1 < 1000; omega)) ?_
    refine wp_ireturn d_Mo_tellsAct_79 rfl rfl ?_
    first
      | (rw [show sp_tel (A 5 i) (A 6 i) i x (r, f) = _ from (if_neg (by rw [show A 5 i = 4 from e_6.symm.trans s_6_4]; decide)).trans (if_neg (by rw [show A 5 i = 4 from e_6.symm.trans s_6_4]; decide))] at k
         exact k)
      | (rw [show sp_tel (A 5 i) (A 6 i) i x (r, f) = _ from (if_neg (fun z => z.elim (fun z => s_6_3 (e_6.trans z)) (fun z => s_6_6 (e_6.trans z)))).trans (if_neg (fun z => s_6_5 (e_6.trans z)))] at k
         exact k)
  by_cases s_6_5 : y_6 = 5
  · rw [s_6_5]
    refine wp_tableIn (off := 52) (t := 58) d_Mo_tellsAct_6 (by decide) (by decide) rfl (by decide) ?_
    refine wp_aload_n d_Mo_tellsAct_58 rfl rfl rfl ?_
    refine wp_bipush (v := 60) d_Mo_tellsAct_59 (by decide) ?_
    refine wp_callV (r := (R_12, T_12, 70)) (M' := m_Mo_body) (as := [_]) (D' := D - 1) (C1 := 0) (C2 := 0) (S1 := 0) (S2 := 0) d_Mo_tellsAct_61 rfl w_1527 w_1529 w_64 hm_0 k_Mo_body (Nat.le_of_ble_eq_true rfl) rfl (Nat.le_of_ble_eq_true rfl) (by omega) rfl rfl ?_
    refine c_Mo_body (by omega) (by omega) ?_
    refine wp_aload_n d_Mo_tellsAct_64 rfl rfl rfl ?_
    refine wp_iload_n d_Mo_tellsAct_65 rfl rfl ?_
    refine wp_iload_n d_Mo_tellsAct_66 rfl rfl ?_
    refine wp_iload_n d_Mo_tellsAct_67 rfl rfl ?_
    refine wp_isub d_Mo_tellsAct_68 ?_
    refine wp_callV (r := (R_12, T_12, 70)) (M' := m_Mo_manTells) (as := [_, _]) (D' := D - 1) (C1 := 0) (C2 := 0) (S1 := 0) (S2 := 0) d_Mo_tellsAct_69 rfl w_1551 w_1553 w_70 hm_0 k_Mo_manTells (Nat.le_of_ble_eq_true rfl) rfl (Nat.le_of_ble_eq_true rfl) (by omega) rfl rfl ?_
    refine c_Mo_manTells (by omega) hi (by first | omega | (show r + 1 < 500; omega)) (by first | omega | (show r + 1 < 1000; omega)) ?_
    refine wp_ireturn d_Mo_tellsAct_72 rfl rfl ?_
    rw [show sp_tel (A 5 i) (A 6 i) i x (r, f) = _ from (if_neg (by rw [show A 5 i = 5 from e_6.symm.trans s_6_5]; decide)).trans (if_pos (e_6.symm.trans s_6_5))] at k
    exact k
  by_cases s_6_6 : y_6 = 6
  · rw [s_6_6]
    refine wp_tableIn (off := 30) (t := 36) d_Mo_tellsAct_6 (by decide) (by decide) rfl (by decide) ?_
    refine wp_aload_n d_Mo_tellsAct_36 rfl rfl rfl ?_
    refine wp_bipush (v := 40) d_Mo_tellsAct_37 (by decide) ?_
    refine wp_callV (r := (R_12, T_12, 70)) (M' := m_Mo_body) (as := [_]) (D' := D - 1) (C1 := 0) (C2 := 0) (S1 := 0) (S2 := 0) d_Mo_tellsAct_39 rfl w_1527 w_1529 w_64 hm_0 k_Mo_body (Nat.le_of_ble_eq_true rfl) rfl (Nat.le_of_ble_eq_true rfl) (by omega) rfl rfl ?_
    refine c_Mo_body (by omega) (by omega) ?_
    refine wp_aload_n d_Mo_tellsAct_42 rfl rfl rfl ?_
    refine wp_iload_n d_Mo_tellsAct_43 rfl rfl ?_
    refine wp_iload_n d_Mo_tellsAct_44 rfl rfl ?_
    refine wp_callV (r := (R_12, T_12, 70)) (M' := m_Mo_manTells) (as := [_, _]) (D' := D - 1) (C1 := 0) (C2 := 0) (S1 := 0) (S2 := 0) d_Mo_tellsAct_45 rfl w_1551 w_1553 w_70 hm_0 k_Mo_manTells (Nat.le_of_ble_eq_true rfl) rfl (Nat.le_of_ble_eq_true rfl) (by omega) rfl rfl ?_
    refine c_Mo_manTells (by omega) hi (by first | omega | (show r + 1 < 500; omega)) (by first | omega | (show r + 1 < 1000; omega)) ?_
    refine wp_istore_n (ls' := [_, _, _, _]) d_Mo_tellsAct_48 rfl (by decide) rfl ?_
    refine wp_iload_n d_Mo_tellsAct_49 rfl rfl ?_
    refine wp_aload_n d_Mo_tellsAct_50 rfl rfl rfl ?_
    refine wp_iload_n d_Mo_tellsAct_51 rfl rfl ?_
    refine wp_iconst (v := 1) d_Mo_tellsAct_52 rfl ?_
    refine wp_callV (r := (R_12, T_12, 70)) (M' := m_Mo_takesAct) (as := [_, _]) (D' := D - 1) (C1 := 0) (C2 := 0) (S1 := 0) (S2 := 0) d_Mo_tellsAct_53 rfl w_1535 w_1537 w_66 hm_0 k_Mo_takesAct (Nat.le_of_ble_eq_true rfl) rfl (Nat.le_of_ble_eq_true rfl) (by omega) rfl rfl ?_
    refine c_Mo_takesAct (by omega) hi (by have := sp_mtl_1 (k := A 5 i) (v := A 6 i) (i := i) (x := x) (t := sp_bd (r, f) 40); rw [sp_bd_1] at this; exact Nat.lt_of_le_of_lt this (by show r + 1 + 6 < 600; omega)) (by have := sp_mtl_1 (k := A 5 i) (v := A 6 i) (i := i) (x := x) (t := sp_bd (r, f) 40); rw [sp_bd_1] at this; exact Nat.lt_of_le_of_lt this (by show r + 1 + 6 < 1000; omega)) ?_
    refine wp_iadd d_Mo_tellsAct_56 ?_
    refine wp_ireturn d_Mo_tellsAct_57 rfl rfl ?_
    rw [show sp_tel (A 5 i) (A 6 i) i x (r, f) = _ from if_pos (by first | exact Or.inl (e_6.symm.trans s_6_3) | exact Or.inr (e_6.symm.trans s_6_6))] at k
    exact k
  have n_6_3 : y_6.toInt ≠ 3 := lv_neT s_6_3 rfl
  have n_6_4 : y_6.toInt ≠ 4 := lv_neT s_6_4 rfl
  have n_6_5 : y_6.toInt ≠ 5 := lv_neT s_6_5 rfl
  have n_6_6 : y_6.toInt ≠ 6 := lv_neT s_6_6 rfl
  refine wp_tableOut (t := 73) d_Mo_tellsAct_6 (by omega) (by decide) ?_
  refine wp_aload_n d_Mo_tellsAct_73 rfl rfl rfl ?_
  refine wp_iload_n d_Mo_tellsAct_74 rfl rfl ?_
  refine wp_iload_n d_Mo_tellsAct_75 rfl rfl ?_
  refine wp_callV (r := (R_12, T_12, 70)) (M' := m_Mo_manTells) (as := [_, _]) (D' := D - 1) (C1 := 0) (C2 := 0) (S1 := 0) (S2 := 0) d_Mo_tellsAct_76 rfl w_1551 w_1553 w_70 hm_0 k_Mo_manTells (Nat.le_of_ble_eq_true rfl) rfl (Nat.le_of_ble_eq_true rfl) (by omega) rfl rfl ?_
  refine c_Mo_manTells (by omega) hi (by first | omega | (show r + 1 < 500; omega)) (by first | omega | (show r + 1 < 1000; omega)) ?_
  refine wp_ireturn d_Mo_tellsAct_79 rfl rfl ?_
  first
    | (rw [show sp_tel (A 5 i) (A 6 i) i x (r, f) = _ from (if_neg (by rw [show A 5 i = 4 from e_6.symm.trans s_6_4]; decide)).trans (if_neg (by rw [show A 5 i = 4 from e_6.symm.trans s_6_4]; decide))] at k
       exact k)
    | (rw [show sp_tel (A 5 i) (A 6 i) i x (r, f) = _ from (if_neg (fun z => z.elim (fun z => s_6_3 (e_6.trans z)) (fun z => s_6_6 (e_6.trans z)))).trans (if_neg (fun z => s_6_5 (e_6.trans z)))] at k
       exact k)
set_option maxRecDepth 4000 in
theorem c_Mo_act {m a x : Int32} {i : Nat} (hD : 8 ≤ D) (hM : (0 ≤ m ∧ m ≤ I 0 - 1) → m = nI i ∧ i < 6) (kn : ¬ ((0 ≤ m ∧ m ≤ I 0 - 1) ∧ (0 ≤ a ∧ a ≤ 2)) → Q (some (.int 0)) (HM X (upd I 64 0) A L E)) (k0 : ((0 ≤ m ∧ m ≤ I 0 - 1) ∧ (0 ≤ a ∧ a ≤ 2)) → a = 0 → Q (some (.int (sp_tho (A 5 i) (A 6 i) i x (0, A 65)).1)) (HM X (upd I 64 (nI (sp_tho (A 5 i) (A 6 i) i x (0, A 65)).2.1)) (va_up A 65 (sp_tho (A 5 i) (A 6 i) i x (0, A 65)).2.2) L E)) (k1 : ((0 ≤ m ∧ m ≤ I 0 - 1) ∧ (0 ≤ a ∧ a ≤ 2)) → a = 1 → Q (some (.int (sp_tak (A 5 i) (A 6 i) i x (0, A 65)).1)) (HM X (upd I 64 (nI (sp_tak (A 5 i) (A 6 i) i x (0, A 65)).2.1)) (va_up A 65 (sp_tak (A 5 i) (A 6 i) i x (0, A 65)).2.2) L E)) (k2 : ((0 ≤ m ∧ m ≤ I 0 - 1) ∧ (0 ≤ a ∧ a ≤ 2)) → ¬ a = 0 → ¬ a = 1 → Q (some (.int (sp_tel (A 5 i) (A 6 i) i x (0, A 65)).1)) (HM X (upd I 64 (nI (sp_tel (A 5 i) (A 6 i) i x (0, A 65)).2.1)) (va_up A 65 (sp_tel (A 5 i) (A 6 i) i x (0, A 65)).2.2) L E)) : px_W G D 0 0 m_Mo_act 0 (px_ent 4 [.ref X.length, .int m, .int a, .int x]) [] (HM X I A L E) Q := by
  show px_W _ _ _ _ _ _ [some (.ref X.length), some (.int m), some (.int a), some (.int x)] [] _ _
  refine wp_aload_n d_Mo_act_0 rfl rfl rfl ?_
  refine wp_iconst (v := 0) d_Mo_act_1 rfl ?_
  refine pM_64 rfl d_Mo_act_2 ?_
  rw [show HM X (upd I 64 0) A L E = HM X (upd I 64 (nI 0)) (va_up A 65 (A 65)) L E from by rw [va_us]; rfl]
  refine wp_aload_n d_Mo_act_5 rfl rfl rfl ?_
  refine wp_iload_n d_Mo_act_6 rfl rfl ?_
  refine wp_callV (r := (R_12, T_12, 70)) (M' := m_Mo_isMan) (as := [_]) (D' := D - 1) (C1 := 0) (C2 := 0) (S1 := 0) (S2 := 0) d_Mo_act_7 rfl w_1217 w_1219 w_16 hm_0 k_Mo_isMan (Nat.le_of_ble_eq_true rfl) rfl (Nat.le_of_ble_eq_true rfl) (by omega) rfl rfl ?_
  refine c_Mo_isMan (by omega)  (fun c_7 => ?_) (fun c_7 => ?_)
  · skip
    refine wp_if_eq (t := 23) d_Mo_act_10 (by decide) (fun c_10 => (absurd c_10 (by decide))) (fun c_10 => ?_)
    refine wp_aload_n d_Mo_act_13 rfl rfl rfl ?_
    refine wp_iload_n d_Mo_act_14 rfl rfl ?_
    refine wp_iconst (v := 0) d_Mo_act_15 rfl ?_
    refine wp_iconst (v := 2) d_Mo_act_16 rfl ?_
    refine wp_callV (r := (R_12, T_12, 70)) (M' := m_Mo_in) (as := [_, _, _]) (D' := D - 1) (C1 := 0) (C2 := 0) (S1 := 0) (S2 := 0) d_Mo_act_17 rfl w_1209 w_1211 w_15 hm_0 k_Mo_in (Nat.le_of_ble_eq_true rfl) rfl (Nat.le_of_ble_eq_true rfl) (by omega) rfl rfl ?_
    refine c_Mo_in (by omega)  (fun c_17 => ?_) (fun c_17 => ?_)
    · skip
      refine wp_if_ne (t := 25) d_Mo_act_20 (by decide) (fun c_20 => ?_) (fun c_20 => (absurd c_20 (by decide)))
      obtain ⟨rfl, hi⟩ := hM c_7
      refine wp_iload_n d_Mo_act_25 rfl rfl ?_
      refine wp_if_ne (t := 38) d_Mo_act_26 (by decide) (fun c_26 => ?_) (fun c_26 => ?_)
      · skip
        refine wp_iload_n d_Mo_act_38 rfl rfl ?_
        refine wp_iconst (v := 1) d_Mo_act_39 rfl ?_
        refine wp_icmp_ne (t := 52) d_Mo_act_40 (by decide) (fun c_40 => ?_) (fun c_40 => ?_)
        · skip
          refine wp_aload_n d_Mo_act_52 rfl rfl rfl ?_
          refine wp_iload_n d_Mo_act_53 rfl rfl ?_
          refine wp_iload_n d_Mo_act_54 rfl rfl ?_
          refine wp_callV (r := (R_12, T_12, 70)) (M' := m_Mo_tellsAct) (as := [_, _]) (D' := D - 1) (C1 := 0) (C2 := 0) (S1 := 0) (S2 := 0) d_Mo_act_55 rfl w_1547 w_1549 w_69 hm_0 k_Mo_tellsAct (Nat.le_of_ble_eq_true rfl) rfl (Nat.le_of_ble_eq_true rfl) (by omega) rfl rfl ?_
          refine c_Mo_tellsAct (by omega) (r := 0) (f := A 65) hi (by decide) (by decide) ?_
          refine wp_ireturn d_Mo_act_58 rfl rfl ?_
          first | exact k0 ⟨c_7, c_17⟩ c_26 | exact k1 ⟨c_7, c_17⟩ c_40 | exact k2 ⟨c_7, c_17⟩ c_26 c_40
        · skip
          refine wp_aload_n d_Mo_act_43 rfl rfl rfl ?_
          refine wp_iload_n d_Mo_act_44 rfl rfl ?_
          refine wp_iload_n d_Mo_act_45 rfl rfl ?_
          refine wp_callV (r := (R_12, T_12, 70)) (M' := m_Mo_takesAct) (as := [_, _]) (D' := D - 1) (C1 := 0) (C2 := 0) (S1 := 0) (S2 := 0) d_Mo_act_46 rfl w_1535 w_1537 w_66 hm_0 k_Mo_takesAct (Nat.le_of_ble_eq_true rfl) rfl (Nat.le_of_ble_eq_true rfl) (by omega) rfl rfl ?_
          refine c_Mo_takesAct (by omega) (r := 0) (f := A 65) hi (by decide) (by decide) ?_
          refine wp_goto (t := 58) d_Mo_act_49 (by decide) ?_
          refine wp_ireturn d_Mo_act_58 rfl rfl ?_
          first | exact k0 ⟨c_7, c_17⟩ c_26 | exact k1 ⟨c_7, c_17⟩ c_40 | exact k2 ⟨c_7, c_17⟩ c_26 c_40
      · skip
        refine wp_aload_n d_Mo_act_29 rfl rfl rfl ?_
        refine wp_iload_n d_Mo_act_30 rfl rfl ?_
        refine wp_iload_n d_Mo_act_31 rfl rfl ?_
        refine wp_callV (r := (R_12, T_12, 70)) (M' := m_Mo_throwsAct) (as := [_, _]) (D' := D - 1) (C1 := 0) (C2 := 0) (S1 := 0) (S2 := 0) d_Mo_act_32 rfl w_1523 w_1525 w_63 hm_0 k_Mo_throwsAct (Nat.le_of_ble_eq_true rfl) rfl (Nat.le_of_ble_eq_true rfl) (by omega) rfl rfl ?_
        refine c_Mo_throwsAct (by omega) (r := 0) (f := A 65) hi (by decide) (by decide) ?_
        refine wp_goto (t := 58) d_Mo_act_35 (by decide) ?_
        refine wp_ireturn d_Mo_act_58 rfl rfl ?_
        first | exact k0 ⟨c_7, c_17⟩ c_26 | exact k1 ⟨c_7, c_17⟩ c_40 | exact k2 ⟨c_7, c_17⟩ c_26 c_40
    · skip
      refine wp_if_ne (t := 25) d_Mo_act_20 (by decide) (fun c_20 => (absurd c_20 (by decide))) (fun c_20 => ?_)
      refine wp_iconst (v := 0) d_Mo_act_23 rfl ?_
      refine wp_ireturn d_Mo_act_24 rfl rfl ?_
      rw [va_us]
      first | exact kn (fun z => c_7 z.1) | exact kn (fun z => c_17 z.2)
  · skip
    refine wp_if_eq (t := 23) d_Mo_act_10 (by decide) (fun c_10 => ?_) (fun c_10 => (absurd c_10 (by decide)))
    refine wp_iconst (v := 0) d_Mo_act_23 rfl ?_
    refine wp_ireturn d_Mo_act_24 rfl rfl ?_
    rw [va_us]
    first | exact kn (fun z => c_7 z.1) | exact kn (fun z => c_17 z.2)
end MOA
