section MO6
variable {G : px_G} {D : Nat} {X E : px_H} {I : Nat → Int32} {A : Nat → Nat → Int32} {L : Nat → Nat → Int64} {Q : Option Value → px_H → Prop}
set_option maxRecDepth 4000 in
theorem c_Mo_up {n b : Nat} {ln : Nat → Nat} {cl : List sp_Cl} {bt : Int32} (hD : 5 ≤ D) (hw : mo_w I A n ln b cl) (hh : mo_h A) (kb : ¬ (1 ≤ bt ∧ bt ≤ 99) → Q (some (.int (-2))) (HM X I A L E)) (ks : (1 ≤ bt ∧ bt ≤ 99) → (999999 < I 2 + bt ∨ I 3 = 9999 ∨ I 4 = 9999) → Q (some (.int (-3))) (HM X I A L E)) (kn : (1 ≤ bt ∧ bt ≤ 99) → ¬ (999999 < I 2 + bt ∨ I 3 = 9999 ∨ I 4 = 9999) → ∀ (I' : Nat → Int32) (A' : Nat → Nat → Int32) (rt : Int32) (rh rf : Nat → Int32), sp_throw (A 5, A 6, A 9, ln, n, cl) (I 32) (I 2) (A 7) (A 8) = (none, rt, rh, rf) → ms [2, 3, 4, 29, 30, 31] [7, 8, 28] I I' A A' → A' 7 = rh → A' 8 = rf → I' 2 = I 2 + bt → I' 3 = I 3 + 1 → I' 4 = I 4 → mo_h A' → Q (some (.int (rt - I 2))) (HM X I' A' L E)) (kf : (1 ≤ bt ∧ bt ≤ 99) → ¬ (999999 < I 2 + bt ∨ I 3 = 9999 ∨ I 4 = 9999) → ∀ (I' : Nat → Int32) (A' : Nat → Nat → Int32) (m : Nat) (rt : Int32) (rh rf : Nat → Int32), sp_throw (A 5, A 6, A 9, ln, n, cl) (I 32) (I 2) (A 7) (A 8) = (some m, rt, rh, rf) → m < 6 → ms [2, 3, 4, 29, 30, 31] [7, 8, 28] I I' A A' → A' 7 = rh → A' 8 = rf → I' 2 = I 2 + bt → I' 3 = I 3 → I' 4 = I 4 + 1 → mo_h A' → Q (some (.int (-10 - nI m))) (HM X I' A' L E)) : px_W G D 0 0 m_Mo_up 0 (px_ent 4 [.ref X.length, .int bt]) [] (HM X I A L E) Q := by
  show px_W _ _ _ _ _ _ [some (.ref X.length), some (.int bt), none, none] [] _ _
  refine wp_aload_n d_Mo_up_0 rfl rfl rfl ?_
  refine wp_iload_n d_Mo_up_1 rfl rfl ?_
  refine wp_callV (r := (R_12, T_12, 70)) (M' := m_Mo_isBeat) (as := [_]) (D' := D - 1) (C1 := 0) (C2 := 0) (S1 := 0) (S2 := 0) d_Mo_up_2 rfl w_1361 w_1363 w_45 hm_0 k_Mo_isBeat (Nat.le_of_ble_eq_true rfl) rfl (Nat.le_of_ble_eq_true rfl) (by omega) rfl rfl ?_
  refine c_Mo_isBeat (by omega)  (fun c_2 => ?_) (fun c_2 => ?_)
  · skip
    refine wp_if_ne (t := 11) d_Mo_up_5 (by decide) (fun c_5 => ?_) (fun c_5 => (absurd c_5 (by decide)))
    refine wp_aload_n d_Mo_up_11 rfl rfl rfl ?_
    refine gM_2 rfl d_Mo_up_12 ?_
    refine wp_iload_n d_Mo_up_15 rfl rfl ?_
    refine wp_iadd d_Mo_up_16 ?_
    refine wp_ldcw d_Mo_up_17 w_1365 ?_
    refine wp_icmp_gt (t := 43) d_Mo_up_20 (by decide) (fun c_20 => ?_) (fun c_20 => ?_)
    · skip
      refine wp_bipush (v := (-3)) d_Mo_up_43 (by decide) ?_
      refine wp_ireturn d_Mo_up_45 rfl rfl ?_
      exact ks c_2 (by first | exact Or.inl c_20 | exact Or.inr (Or.inl c_30) | exact Or.inr (Or.inr c_40))
    · skip
      refine wp_aload_n d_Mo_up_23 rfl rfl rfl ?_
      refine gM_3 rfl d_Mo_up_24 ?_
      refine wp_sipush (v := 9999) d_Mo_up_27 (by decide) ?_
      refine wp_icmp_eq (t := 43) d_Mo_up_30 (by decide) (fun c_30 => ?_) (fun c_30 => ?_)
      · skip
        refine wp_bipush (v := (-3)) d_Mo_up_43 (by decide) ?_
        refine wp_ireturn d_Mo_up_45 rfl rfl ?_
        exact ks c_2 (by first | exact Or.inl c_20 | exact Or.inr (Or.inl c_30) | exact Or.inr (Or.inr c_40))
      · skip
        refine wp_aload_n d_Mo_up_33 rfl rfl rfl ?_
        refine gM_4 rfl d_Mo_up_34 ?_
        refine wp_sipush (v := 9999) d_Mo_up_37 (by decide) ?_
        refine wp_icmp_ne (t := 46) d_Mo_up_40 (by decide) (fun c_40 => ?_) (fun c_40 => ?_)
        · skip
          refine wp_aload_n d_Mo_up_46 rfl rfl rfl ?_
          refine gM_2 rfl d_Mo_up_47 ?_
          refine wp_istore_n (ls' := [_, _, _, _]) d_Mo_up_50 rfl (by decide) rfl ?_
          refine wp_aload_n d_Mo_up_51 rfl rfl rfl ?_
          refine wp_callV (r := (R_12, T_12, 70)) (M' := m_Mo_goTube) (as := []) (D' := D - 1) (C1 := 0) (C2 := 0) (S1 := 0) (S2 := 0) d_Mo_up_52 rfl w_1366 w_1368 w_46 hm_0 k_Mo_goTube (Nat.le_of_ble_eq_true rfl) rfl (Nat.le_of_ble_eq_true rfl) (by omega) rfl rfl ?_
          refine c_Mo_goTube (by omega) hw hh (fun I1 A1 hm1 h7 h8 hh1 => ?_)
          rcases hr : sp_throw (A 5, A 6, A 9, ln, n, cl) (I 32) (I 2) (A 7) (A 8) with ⟨r1, rt, rh, rf⟩
          rw [hr] at h7 h8
          cases r1 with
          | none =>
            intro h31
            have h31 : I1 31 = rt := h31
            refine wp_istore_n (ls' := [_, _, _, _]) d_Mo_up_55 rfl (by decide) rfl ?_
            refine wp_aload_n d_Mo_up_56 rfl rfl rfl ?_
            refine wp_dup d_Mo_up_57 rfl ?_
            refine gM_2 rfl d_Mo_up_58 ?_
            refine wp_iload_n d_Mo_up_61 rfl rfl ?_
            refine wp_iadd d_Mo_up_62 ?_
            refine pM_2 rfl d_Mo_up_63 ?_
            refine wp_iload_n d_Mo_up_66 rfl rfl ?_
            refine wp_if_eq (t := 83) d_Mo_up_67 (by decide) (fun c_67 => (absurd c_67 (by decide))) (fun c_67 => ?_)
            refine wp_aload_n d_Mo_up_70 rfl rfl rfl ?_
            refine wp_dup d_Mo_up_71 rfl ?_
            refine gM_3 rfl d_Mo_up_72 ?_
            refine wp_iconst (v := 1) d_Mo_up_75 rfl ?_
            refine wp_iadd d_Mo_up_76 ?_
            refine pM_3 rfl d_Mo_up_77 ?_
            refine wp_goto (t := 93) d_Mo_up_80 (by decide) ?_
            refine wp_iload_n d_Mo_up_93 rfl rfl ?_
            refine wp_if_eq (t := 106) d_Mo_up_94 (by decide) (fun c_94 => (absurd c_94 (by decide))) (fun c_94 => ?_)
            refine wp_aload_n d_Mo_up_97 rfl rfl rfl ?_
            refine gM_31 rfl d_Mo_up_98 ?_
            refine wp_iload_n d_Mo_up_101 rfl rfl ?_
            refine wp_isub d_Mo_up_102 ?_
            refine wp_goto (t := 113) d_Mo_up_103 (by decide) ?_
            refine wp_ireturn d_Mo_up_113 rfl rfl ?_
            have hst : ¬ (999999 < I 2 + bt ∨ I 3 = 9999 ∨ I 4 = 9999) := fun z => z.elim c_20 (fun z => z.elim c_30 c_40)
            have e2 : I1 2 = I 2 := hm1.1 2 (by decide)
            have e3 : I1 3 = I 3 := hm1.1 3 (by decide)
            have e4 : I1 4 = I 4 := hm1.1 4 (by decide)
            first
              | (rw [show upd (upd I1 2 (I1 2 + bt)) 3 (upd I1 2 (I1 2 + bt) 3 + 1) 31 = rt from h31]
                 exact kn c_2 hst _ _ rt rh rf hr (((hm1.mo (TI := [2, 3, 4, 29, 30, 31]) (TA := [7, 8, 28]) (by decide) (by decide)).i 2 (by decide) _).i 3 (by decide) _) h7 h8 (congrArg (· + bt) e2) (congrArg (· + 1) e3) e4 hh1)
              | (rw [show upd (upd I1 2 (I1 2 + bt)) 4 (upd I1 2 (I1 2 + bt) 4 + 1) 30 = nI mf from h30]
                 exact kf c_2 hst _ _ mf rt rh rf hr hm6 (((hm1.mo (TI := [2, 3, 4, 29, 30, 31]) (TA := [7, 8, 28]) (by decide) (by decide)).i 2 (by decide) _).i 4 (by decide) _) h7 h8 (congrArg (· + bt) e2) e3 (congrArg (· + 1) e4) hh1)
          | some mf =>
            intro h30 hm6
            have h30 : I1 30 = nI mf := h30
            refine wp_istore_n (ls' := [_, _, _, _]) d_Mo_up_55 rfl (by decide) rfl ?_
            refine wp_aload_n d_Mo_up_56 rfl rfl rfl ?_
            refine wp_dup d_Mo_up_57 rfl ?_
            refine gM_2 rfl d_Mo_up_58 ?_
            refine wp_iload_n d_Mo_up_61 rfl rfl ?_
            refine wp_iadd d_Mo_up_62 ?_
            refine pM_2 rfl d_Mo_up_63 ?_
            refine wp_iload_n d_Mo_up_66 rfl rfl ?_
            refine wp_if_eq (t := 83) d_Mo_up_67 (by decide) (fun c_67 => ?_) (fun c_67 => (absurd c_67 (by decide)))
            refine wp_aload_n d_Mo_up_83 rfl rfl rfl ?_
            refine wp_dup d_Mo_up_84 rfl ?_
            refine gM_4 rfl d_Mo_up_85 ?_
            refine wp_iconst (v := 1) d_Mo_up_88 rfl ?_
            refine wp_iadd d_Mo_up_89 ?_
            refine pM_4 rfl d_Mo_up_90 ?_
            refine wp_iload_n d_Mo_up_93 rfl rfl ?_
            refine wp_if_eq (t := 106) d_Mo_up_94 (by decide) (fun c_94 => ?_) (fun c_94 => (absurd c_94 (by decide)))
            refine wp_bipush (v := (-10)) d_Mo_up_106 (by decide) ?_
            refine wp_aload_n d_Mo_up_108 rfl rfl rfl ?_
            refine gM_30 rfl d_Mo_up_109 ?_
            refine wp_isub d_Mo_up_112 ?_
            refine wp_ireturn d_Mo_up_113 rfl rfl ?_
            have hst : ¬ (999999 < I 2 + bt ∨ I 3 = 9999 ∨ I 4 = 9999) := fun z => z.elim c_20 (fun z => z.elim c_30 c_40)
            have e2 : I1 2 = I 2 := hm1.1 2 (by decide)
            have e3 : I1 3 = I 3 := hm1.1 3 (by decide)
            have e4 : I1 4 = I 4 := hm1.1 4 (by decide)
            first
              | (rw [show upd (upd I1 2 (I1 2 + bt)) 3 (upd I1 2 (I1 2 + bt) 3 + 1) 31 = rt from h31]
                 exact kn c_2 hst _ _ rt rh rf hr (((hm1.mo (TI := [2, 3, 4, 29, 30, 31]) (TA := [7, 8, 28]) (by decide) (by decide)).i 2 (by decide) _).i 3 (by decide) _) h7 h8 (congrArg (· + bt) e2) (congrArg (· + 1) e3) e4 hh1)
              | (rw [show upd (upd I1 2 (I1 2 + bt)) 4 (upd I1 2 (I1 2 + bt) 4 + 1) 30 = nI mf from h30]
                 exact kf c_2 hst _ _ mf rt rh rf hr hm6 (((hm1.mo (TI := [2, 3, 4, 29, 30, 31]) (TA := [7, 8, 28]) (by decide) (by decide)).i 2 (by decide) _).i 4 (by decide) _) h7 h8 (congrArg (· + bt) e2) e3 (congrArg (· + 1) e4) hh1)
        · skip
          refine wp_bipush (v := (-3)) d_Mo_up_43 (by decide) ?_
          refine wp_ireturn d_Mo_up_45 rfl rfl ?_
          exact ks c_2 (by first | exact Or.inl c_20 | exact Or.inr (Or.inl c_30) | exact Or.inr (Or.inr c_40))
  · skip
    refine wp_if_ne (t := 11) d_Mo_up_5 (by decide) (fun c_5 => (absurd c_5 (by decide))) (fun c_5 => ?_)
    refine wp_bipush (v := (-2)) d_Mo_up_8 (by decide) ?_
    refine wp_ireturn d_Mo_up_10 rfl rfl ?_
    exact kb c_2
set_option maxRecDepth 4000 in
theorem c_Mo_pause {x : Int32} (hD : 1 ≤ D) (kb : ¬ (0 ≤ x ∧ x ≤ 9999) → Q (some (.int (-2))) (HM X I A L E)) (ks : (0 ≤ x ∧ x ≤ 9999) → ¬ (I 2 + x ≤ 999999) → Q (some (.int (-3))) (HM X I A L E)) (kn : (0 ≤ x ∧ x ≤ 9999) → I 2 + x ≤ 999999 → Q (some (.int (I 2 + x))) (HM X (upd I 2 (I 2 + x)) A L E)) : px_W G D 0 0 m_Mo_pause 0 (px_ent 2 [.ref X.length, .int x]) [] (HM X I A L E) Q := by
  show px_W _ _ _ _ _ _ [some (.ref X.length), some (.int x)] [] _ _
  refine wp_aload_n d_Mo_pause_0 rfl rfl rfl ?_
  refine wp_iload_n d_Mo_pause_1 rfl rfl ?_
  refine wp_iconst (v := 0) d_Mo_pause_2 rfl ?_
  refine wp_sipush (v := 9999) d_Mo_pause_3 (by decide) ?_
  refine wp_callV (r := (R_12, T_12, 70)) (M' := m_Mo_in) (as := [_, _, _]) (D' := D - 1) (C1 := 0) (C2 := 0) (S1 := 0) (S2 := 0) d_Mo_pause_6 rfl w_1209 w_1211 w_15 hm_0 k_Mo_in (Nat.le_of_ble_eq_true rfl) rfl (Nat.le_of_ble_eq_true rfl) (by omega) rfl rfl ?_
  refine c_Mo_in (by omega)  (fun c_6 => ?_) (fun c_6 => ?_)
  · skip
    refine wp_if_ne (t := 15) d_Mo_pause_9 (by decide) (fun c_9 => ?_) (fun c_9 => (absurd c_9 (by decide)))
    refine wp_aload_n d_Mo_pause_15 rfl rfl rfl ?_
    refine gM_2 rfl d_Mo_pause_16 ?_
    refine wp_iload_n d_Mo_pause_19 rfl rfl ?_
    refine wp_iadd d_Mo_pause_20 ?_
    refine wp_ldcw d_Mo_pause_21 w_1365 ?_
    refine wp_icmp_le (t := 30) d_Mo_pause_24 (by decide) (fun c_24 => ?_) (fun c_24 => ?_)
    · skip
      refine wp_aload_n d_Mo_pause_30 rfl rfl rfl ?_
      refine wp_dup d_Mo_pause_31 rfl ?_
      refine gM_2 rfl d_Mo_pause_32 ?_
      refine wp_iload_n d_Mo_pause_35 rfl rfl ?_
      refine wp_iadd d_Mo_pause_36 ?_
      refine pM_2 rfl d_Mo_pause_37 ?_
      refine wp_aload_n d_Mo_pause_40 rfl rfl rfl ?_
      refine gM_2 rfl d_Mo_pause_41 ?_
      refine wp_ireturn d_Mo_pause_44 rfl rfl ?_
      exact kn c_6 c_24
    · skip
      refine wp_bipush (v := (-3)) d_Mo_pause_27 (by decide) ?_
      refine wp_ireturn d_Mo_pause_29 rfl rfl ?_
      exact ks c_6 c_24
  · skip
    refine wp_if_ne (t := 15) d_Mo_pause_9 (by decide) (fun c_9 => (absurd c_9 (by decide))) (fun c_9 => ?_)
    refine wp_bipush (v := (-2)) d_Mo_pause_12 (by decide) ?_
    refine wp_ireturn d_Mo_pause_14 rfl rfl ?_
    exact kb c_6
set_option maxRecDepth 4000 in
theorem c_Mo_held {m x : Int32} (hD : 2 ≤ D) (hv : (0 ≤ m ∧ m ≤ I 0 - 1) → vp_in m 6) (kn : ¬ (0 ≤ m ∧ m ≤ I 0 - 1) → Q (some (.int (-1))) (HM X I A L E)) (kb : (0 ≤ m ∧ m ≤ I 0 - 1) → ¬ (0 ≤ x ∧ x ≤ 9999) → Q (some (.int (-2))) (HM X I A L E)) (kk : (0 ≤ m ∧ m ≤ I 0 - 1) → (0 ≤ x ∧ x ≤ 9999) → Q (some (.int (A 7 m.toNatClampNeg))) (HM X I (va_up A 7 (upd (A 7) m.toNatClampNeg x)) L E)) : px_W G D 0 0 m_Mo_held 0 (px_ent 4 [.ref X.length, .int m, .int x]) [] (HM X I A L E) Q := by
  show px_W _ _ _ _ _ _ [some (.ref X.length), some (.int m), some (.int x), none] [] _ _
  refine wp_aload_n d_Mo_held_0 rfl rfl rfl ?_
  refine wp_iload_n d_Mo_held_1 rfl rfl ?_
  refine wp_callV (r := (R_12, T_12, 70)) (M' := m_Mo_isMan) (as := [_]) (D' := D - 1) (C1 := 0) (C2 := 0) (S1 := 0) (S2 := 0) d_Mo_held_2 rfl w_1217 w_1219 w_16 hm_0 k_Mo_isMan (Nat.le_of_ble_eq_true rfl) rfl (Nat.le_of_ble_eq_true rfl) (by omega) rfl rfl ?_
  refine c_Mo_isMan (by omega)  (fun c_2 => ?_) (fun c_2 => ?_)
  · skip
    refine wp_if_ne (t := 10) d_Mo_held_5 (by decide) (fun c_5 => ?_) (fun c_5 => (absurd c_5 (by decide)))
    refine wp_aload_n d_Mo_held_10 rfl rfl rfl ?_
    refine wp_iload_n d_Mo_held_11 rfl rfl ?_
    refine wp_iconst (v := 0) d_Mo_held_12 rfl ?_
    refine wp_sipush (v := 9999) d_Mo_held_13 (by decide) ?_
    refine wp_callV (r := (R_12, T_12, 70)) (M' := m_Mo_in) (as := [_, _, _]) (D' := D - 1) (C1 := 0) (C2 := 0) (S1 := 0) (S2 := 0) d_Mo_held_16 rfl w_1209 w_1211 w_15 hm_0 k_Mo_in (Nat.le_of_ble_eq_true rfl) rfl (Nat.le_of_ble_eq_true rfl) (by omega) rfl rfl ?_
    refine c_Mo_in (by omega)  (fun c_16 => ?_) (fun c_16 => ?_)
    · skip
      refine wp_if_ne (t := 25) d_Mo_held_19 (by decide) (fun c_19 => ?_) (fun c_19 => (absurd c_19 (by decide)))
      refine wp_aload_n d_Mo_held_25 rfl rfl rfl ?_
      refine gM_7 rfl d_Mo_held_26 ?_
      refine wp_iload_n d_Mo_held_29 rfl rfl ?_
      refine lM_7 d_Mo_held_30 (hv c_2) ?_
      refine wp_istore_n (ls' := [_, _, _, _]) d_Mo_held_31 rfl (by decide) rfl ?_
      refine wp_aload_n d_Mo_held_32 rfl rfl rfl ?_
      refine gM_7 rfl d_Mo_held_33 ?_
      refine wp_iload_n d_Mo_held_36 rfl rfl ?_
      refine wp_iload_n d_Mo_held_37 rfl rfl ?_
      refine sM_7 d_Mo_held_38 (hv c_2) ?_
      refine wp_iload_n d_Mo_held_39 rfl rfl ?_
      refine wp_ireturn d_Mo_held_40 rfl rfl ?_
      exact kk c_2 c_16
    · skip
      refine wp_if_ne (t := 25) d_Mo_held_19 (by decide) (fun c_19 => (absurd c_19 (by decide))) (fun c_19 => ?_)
      refine wp_bipush (v := (-2)) d_Mo_held_22 (by decide) ?_
      refine wp_ireturn d_Mo_held_24 rfl rfl ?_
      exact kb c_2 c_16
  · skip
    refine wp_if_ne (t := 10) d_Mo_held_5 (by decide) (fun c_5 => (absurd c_5 (by decide))) (fun c_5 => ?_)
    refine wp_iconst (v := (-1)) d_Mo_held_8 rfl ?_
    refine wp_ireturn d_Mo_held_9 rfl rfl ?_
    exact kn c_2
set_option maxRecDepth 4000 in
theorem c_Mo_row {m pt x : Int32} (hD : 2 ≤ D) (hv : (0 ≤ m ∧ m ≤ I 0 - 1) → vp_in m 6) (hr : (0 ≤ m ∧ m ≤ I 0 - 1) → (0 ≤ pt ∧ pt ≤ 3) → vp_in (4 * m + pt) 24) (kn : ¬ ((0 ≤ m ∧ m ≤ I 0 - 1) ∧ (0 ≤ pt ∧ pt ≤ 3)) → Q (some (.int (-1))) (HM X I A L E)) (kb : ((0 ≤ m ∧ m ≤ I 0 - 1) ∧ (0 ≤ pt ∧ pt ≤ 3)) → ¬ (0 ≤ x ∧ x ≤ 9) → Q (some (.int (-2))) (HM X I A L E)) (ks : ((0 ≤ m ∧ m ≤ I 0 - 1) ∧ (0 ≤ pt ∧ pt ≤ 3)) → (0 ≤ x ∧ x ≤ 9) → ¬ A 5 m.toNatClampNeg = 6 → Q (some (.int (-3))) (HM X I A L E)) (kk : ((0 ≤ m ∧ m ≤ I 0 - 1) ∧ (0 ≤ pt ∧ pt ≤ 3)) → (0 ≤ x ∧ x ≤ 9) → A 5 m.toNatClampNeg = 6 → Q (some (.int (A 9 (4 * m + pt).toNatClampNeg))) (HM X I (va_up A 9 (upd (A 9) (4 * m + pt).toNatClampNeg x)) L E)) : px_W G D 0 0 m_Mo_row 0 (px_ent 5 [.ref X.length, .int m, .int pt, .int x]) [] (HM X I A L E) Q := by
  show px_W _ _ _ _ _ _ [some (.ref X.length), some (.int m), some (.int pt), some (.int x), none] [] _ _
  refine wp_aload_n d_Mo_row_0 rfl rfl rfl ?_
  refine wp_iload_n d_Mo_row_1 rfl rfl ?_
  refine wp_callV (r := (R_12, T_12, 70)) (M' := m_Mo_isMan) (as := [_]) (D' := D - 1) (C1 := 0) (C2 := 0) (S1 := 0) (S2 := 0) d_Mo_row_2 rfl w_1217 w_1219 w_16 hm_0 k_Mo_isMan (Nat.le_of_ble_eq_true rfl) rfl (Nat.le_of_ble_eq_true rfl) (by omega) rfl rfl ?_
  refine c_Mo_isMan (by omega)  (fun c_2 => ?_) (fun c_2 => ?_)
  · skip
    refine wp_if_eq (t := 18) d_Mo_row_5 (by decide) (fun c_5 => (absurd c_5 (by decide))) (fun c_5 => ?_)
    refine wp_aload_n d_Mo_row_8 rfl rfl rfl ?_
    refine wp_iload_n d_Mo_row_9 rfl rfl ?_
    refine wp_iconst (v := 0) d_Mo_row_10 rfl ?_
    refine wp_iconst (v := 3) d_Mo_row_11 rfl ?_
    refine wp_callV (r := (R_12, T_12, 70)) (M' := m_Mo_in) (as := [_, _, _]) (D' := D - 1) (C1 := 0) (C2 := 0) (S1 := 0) (S2 := 0) d_Mo_row_12 rfl w_1209 w_1211 w_15 hm_0 k_Mo_in (Nat.le_of_ble_eq_true rfl) rfl (Nat.le_of_ble_eq_true rfl) (by omega) rfl rfl ?_
    refine c_Mo_in (by omega)  (fun c_12 => ?_) (fun c_12 => ?_)
    · skip
      refine wp_if_ne (t := 20) d_Mo_row_15 (by decide) (fun c_15 => ?_) (fun c_15 => (absurd c_15 (by decide)))
      refine wp_aload_n d_Mo_row_20 rfl rfl rfl ?_
      refine wp_iload_n d_Mo_row_21 rfl rfl ?_
      refine wp_iconst (v := 0) d_Mo_row_22 rfl ?_
      refine wp_bipush (v := 9) d_Mo_row_23 (by decide) ?_
      refine wp_callV (r := (R_12, T_12, 70)) (M' := m_Mo_in) (as := [_, _, _]) (D' := D - 1) (C1 := 0) (C2 := 0) (S1 := 0) (S2 := 0) d_Mo_row_25 rfl w_1209 w_1211 w_15 hm_0 k_Mo_in (Nat.le_of_ble_eq_true rfl) rfl (Nat.le_of_ble_eq_true rfl) (by omega) rfl rfl ?_
      refine c_Mo_in (by omega)  (fun c_25 => ?_) (fun c_25 => ?_)
      · skip
        refine wp_if_ne (t := 34) d_Mo_row_28 (by decide) (fun c_28 => ?_) (fun c_28 => (absurd c_28 (by decide)))
        refine wp_aload_n d_Mo_row_34 rfl rfl rfl ?_
        refine gM_5 rfl d_Mo_row_35 ?_
        refine wp_iload_n d_Mo_row_38 rfl rfl ?_
        refine lM_5 d_Mo_row_39 (hv c_2) ?_
        refine wp_bipush (v := 6) d_Mo_row_40 (by decide) ?_
        refine wp_icmp_eq (t := 48) d_Mo_row_42 (by decide) (fun c_42 => ?_) (fun c_42 => ?_)
        · skip
          refine wp_aload_n d_Mo_row_48 rfl rfl rfl ?_
          refine gM_9 rfl d_Mo_row_49 ?_
          refine wp_iconst (v := 4) d_Mo_row_52 rfl ?_
          refine wp_iload_n d_Mo_row_53 rfl rfl ?_
          refine wp_imul d_Mo_row_54 ?_
          refine wp_iload_n d_Mo_row_55 rfl rfl ?_
          refine wp_iadd d_Mo_row_56 ?_
          refine lM_9 d_Mo_row_57 (hr c_2 c_12) ?_
          refine wp_istore (ls' := [_, _, _, _, _]) d_Mo_row_58 (by decide) rfl ?_
          refine wp_aload_n d_Mo_row_60 rfl rfl rfl ?_
          refine gM_9 rfl d_Mo_row_61 ?_
          refine wp_iconst (v := 4) d_Mo_row_64 rfl ?_
          refine wp_iload_n d_Mo_row_65 rfl rfl ?_
          refine wp_imul d_Mo_row_66 ?_
          refine wp_iload_n d_Mo_row_67 rfl rfl ?_
          refine wp_iadd d_Mo_row_68 ?_
          refine wp_iload_n d_Mo_row_69 rfl rfl ?_
          refine sM_9 d_Mo_row_70 (hr c_2 c_12) ?_
          refine wp_iload d_Mo_row_71 rfl ?_
          refine wp_ireturn d_Mo_row_73 rfl rfl ?_
          exact kk ⟨c_2, c_12⟩ c_25 c_42
        · skip
          refine wp_bipush (v := (-3)) d_Mo_row_45 (by decide) ?_
          refine wp_ireturn d_Mo_row_47 rfl rfl ?_
          exact ks ⟨c_2, c_12⟩ c_25 c_42
      · skip
        refine wp_if_ne (t := 34) d_Mo_row_28 (by decide) (fun c_28 => (absurd c_28 (by decide))) (fun c_28 => ?_)
        refine wp_bipush (v := (-2)) d_Mo_row_31 (by decide) ?_
        refine wp_ireturn d_Mo_row_33 rfl rfl ?_
        exact kb ⟨c_2, c_12⟩ c_25
    · skip
      refine wp_if_ne (t := 20) d_Mo_row_15 (by decide) (fun c_15 => (absurd c_15 (by decide))) (fun c_15 => ?_)
      refine wp_iconst (v := (-1)) d_Mo_row_18 rfl ?_
      refine wp_ireturn d_Mo_row_19 rfl rfl ?_
      first | exact kn (fun z => c_2 z.1) | exact kn (fun z => c_12 z.2)
  · skip
    refine wp_if_eq (t := 18) d_Mo_row_5 (by decide) (fun c_5 => ?_) (fun c_5 => (absurd c_5 (by decide)))
    refine wp_iconst (v := (-1)) d_Mo_row_18 rfl ?_
    refine wp_ireturn d_Mo_row_19 rfl rfl ?_
    first | exact kn (fun z => c_2 z.1) | exact kn (fun z => c_12 z.2)
set_option maxRecDepth 4000 in
theorem c_Mo_feed {x : Int32} (hD : 1 ≤ D) (hf : ¬ I 13 = 100 → vp_in (I 13) 100) (kb : ¬ (0 ≤ x ∧ x ≤ 127) → Q (some (.int (-2))) (HM X I A L E)) (kf : (0 ≤ x ∧ x ≤ 127) → I 13 = 100 → Q (some (.int (-4))) (HM X I A L E)) (kk : (0 ≤ x ∧ x ≤ 127) → ¬ I 13 = 100 → Q (some (.int (I 13 + 1))) (HM X (upd I 13 (I 13 + 1)) (va_up A 16 (upd (A 16) (I 13).toNatClampNeg x)) L E)) : px_W G D 0 0 m_Mo_feed 0 (px_ent 2 [.ref X.length, .int x]) [] (HM X I A L E) Q := by
  show px_W _ _ _ _ _ _ [some (.ref X.length), some (.int x)] [] _ _
  refine wp_aload_n d_Mo_feed_0 rfl rfl rfl ?_
  refine wp_iload_n d_Mo_feed_1 rfl rfl ?_
  refine wp_iconst (v := 0) d_Mo_feed_2 rfl ?_
  refine wp_bipush (v := 127) d_Mo_feed_3 (by decide) ?_
  refine wp_callV (r := (R_12, T_12, 70)) (M' := m_Mo_in) (as := [_, _, _]) (D' := D - 1) (C1 := 0) (C2 := 0) (S1 := 0) (S2 := 0) d_Mo_feed_5 rfl w_1209 w_1211 w_15 hm_0 k_Mo_in (Nat.le_of_ble_eq_true rfl) rfl (Nat.le_of_ble_eq_true rfl) (by omega) rfl rfl ?_
  refine c_Mo_in (by omega)  (fun c_5 => ?_) (fun c_5 => ?_)
  · skip
    refine wp_if_ne (t := 14) d_Mo_feed_8 (by decide) (fun c_8 => ?_) (fun c_8 => (absurd c_8 (by decide)))
    refine wp_aload_n d_Mo_feed_14 rfl rfl rfl ?_
    refine gM_13 rfl d_Mo_feed_15 ?_
    refine wp_bipush (v := 100) d_Mo_feed_18 (by decide) ?_
    refine wp_icmp_ne (t := 26) d_Mo_feed_20 (by decide) (fun c_20 => ?_) (fun c_20 => ?_)
    · skip
      refine wp_aload_n d_Mo_feed_26 rfl rfl rfl ?_
      refine gM_16 rfl d_Mo_feed_27 ?_
      refine wp_aload_n d_Mo_feed_30 rfl rfl rfl ?_
      refine gM_13 rfl d_Mo_feed_31 ?_
      refine wp_iload_n d_Mo_feed_34 rfl rfl ?_
      refine sM_16 d_Mo_feed_35 (hf c_20) ?_
      refine wp_aload_n d_Mo_feed_36 rfl rfl rfl ?_
      refine wp_dup d_Mo_feed_37 rfl ?_
      refine gM_13 rfl d_Mo_feed_38 ?_
      refine wp_iconst (v := 1) d_Mo_feed_41 rfl ?_
      refine wp_iadd d_Mo_feed_42 ?_
      refine pM_13 rfl d_Mo_feed_43 ?_
      refine wp_aload_n d_Mo_feed_46 rfl rfl rfl ?_
      refine gM_13 rfl d_Mo_feed_47 ?_
      refine wp_ireturn d_Mo_feed_50 rfl rfl ?_
      exact kk c_5 c_20
    · skip
      refine wp_bipush (v := (-4)) d_Mo_feed_23 (by decide) ?_
      refine wp_ireturn d_Mo_feed_25 rfl rfl ?_
      exact kf c_5 c_20
  · skip
    refine wp_if_ne (t := 14) d_Mo_feed_8 (by decide) (fun c_8 => (absurd c_8 (by decide))) (fun c_8 => ?_)
    refine wp_bipush (v := (-2)) d_Mo_feed_11 (by decide) ?_
    refine wp_ireturn d_Mo_feed_13 rfl rfl ?_
    exact kb c_5
def mo_z4 (f : Nat → Int32) (m : Nat) : Nat → Nat → Int32
  | 0 => f
  | q + 1 => upd (mo_z4 f m q) (4 * m + q) 0
set_option maxRecDepth 4000 in
theorem l_Mo_man_94 {m : Nat} {k0 v0 : Int32} (hm : m < 6) (hI : I 0 = nI m) (k : Q (some (.int (nI (m + 1) - 1))) (HM X (upd (upd I 0 (nI (m + 1))) 1 (nI (m + 1))) (va_up A 9 (mo_z4 (A 9) m 4)) L E)) : ∀ (q i : Nat), i + q = 4 → px_W G D 0 0 m_Mo_man 94 [some (.ref X.length), some (.int k0), some (.int v0), some (.int (nI i))] [] (HM X I (va_up A 9 (mo_z4 (A 9) m i)) L E) Q := by
  intro q
  induction q with
  | zero =>
    intro i hi
    have hi4 : i = 4 := by omega
    subst hi4
    refine wp_iload_n d_Mo_man_94 rfl rfl ?_
    refine wp_iconst (v := 4) d_Mo_man_95 rfl ?_
    refine wp_icmp_ge (t := 119) d_Mo_man_96 (by decide) (fun c_96 => ?_) (fun c_96 => absurd (by decide) c_96)
    refine wp_aload_n d_Mo_man_119 rfl rfl rfl ?_
    refine wp_dup d_Mo_man_120 rfl ?_
    refine gM_0 rfl d_Mo_man_121 ?_
    refine wp_iconst (v := 1) d_Mo_man_124 rfl ?_
    rw [hI]
    refine wp_iadd d_Mo_man_125 ?_
    rw [show nI m + 1 = nI (m + 1) from nI_1 m]
    refine pM_0 rfl d_Mo_man_126 ?_
    refine wp_aload_n d_Mo_man_129 rfl rfl rfl ?_
    refine wp_aload_n d_Mo_man_130 rfl rfl rfl ?_
    refine gM_0 rfl d_Mo_man_131 ?_
    refine pM_1 rfl d_Mo_man_134 ?_
    refine wp_aload_n d_Mo_man_137 rfl rfl rfl ?_
    refine gM_0 rfl d_Mo_man_138 ?_
    refine wp_iconst (v := 1) d_Mo_man_141 rfl ?_
    refine wp_isub d_Mo_man_142 ?_
    refine wp_ireturn d_Mo_man_143 rfl rfl ?_
    exact k
  | succ q ih =>
    intro i hi
    have e4 : (4 : Int32) * nI m + nI i = nI (4 * m + i) := by rw [show (4 : Int32) * nI m = nI (4 * m) from pk_mul 4 m]; exact nI_add _ _
    refine wp_iload_n d_Mo_man_94 rfl rfl ?_
    refine wp_iconst (v := 4) d_Mo_man_95 rfl ?_
    refine wp_icmp_ge (t := 119) d_Mo_man_96 (by decide) (fun c_96 => absurd c_96 (nI_ge (b := 4) (by omega) (by decide))) (fun c_96 => ?_)
    refine wp_aload_n d_Mo_man_99 rfl rfl rfl ?_
    refine gM_9 rfl d_Mo_man_100 ?_
    refine wp_iconst (v := 4) d_Mo_man_103 rfl ?_
    refine wp_aload_n d_Mo_man_104 rfl rfl rfl ?_
    refine gM_0 rfl d_Mo_man_105 ?_
    rw [hI]
    refine wp_imul d_Mo_man_108 ?_
    refine wp_iload_n d_Mo_man_109 rfl rfl ?_
    refine wp_iadd d_Mo_man_110 ?_
    rw [e4]
    refine wp_iconst (v := 0) d_Mo_man_111 rfl ?_
    refine sM_9 d_Mo_man_112 (vp_in_nI (by omega) (by decide)) ?_
    refine wp_iinc (v := _ + 1) (ls' := [_, _, _, _]) d_Mo_man_113 (by decide) rfl rfl rfl ?_
    refine wp_goto (t := 94) d_Mo_man_116 (by decide) ?_
    rw [bx_uu, nI_clamp (by omega), show nI i + 1 = nI (i + 1) from nI_1 i]
    exact ih (i + 1) (by omega)
set_option maxRecDepth 4000 in
theorem c_Mo_man {x v : Int32} (hD : 1 ≤ D) (hI : ¬ I 0 = 6 → ∃ m, m < 6 ∧ I 0 = nI m) (hin : ¬ I 0 = 6 → vp_in (I 0) 6) (kn : ¬ (0 ≤ x ∧ x ≤ 6) → Q (some (.int (-1))) (HM X I A L E)) (kb : (0 ≤ x ∧ x ≤ 6) → ¬ (0 ≤ v ∧ v ≤ 9) → Q (some (.int (-2))) (HM X I A L E)) (kf : (0 ≤ x ∧ x ≤ 6) → (0 ≤ v ∧ v ≤ 9) → I 0 = 6 → Q (some (.int (-4))) (HM X I A L E)) (kk : (0 ≤ x ∧ x ≤ 6) → (0 ≤ v ∧ v ≤ 9) → ¬ I 0 = 6 → ∀ m, m < 6 → I 0 = nI m → Q (some (.int (nI (m + 1) - 1))) (HM X (upd (upd I 0 (nI (m + 1))) 1 (nI (m + 1))) (va_up (va_up (va_up (va_up (va_up (va_up A 5 (upd (A 5) m x)) 6 (upd (A 6) m v)) 7 (upd (A 7) m 0)) 8 (upd (A 8) m 0)) 10 (upd (A 10) m (nI m))) 9 (mo_z4 (A 9) m 4)) L E)) : px_W G D 0 0 m_Mo_man 0 (px_ent 4 [.ref X.length, .int x, .int v]) [] (HM X I A L E) Q := by
  show px_W _ _ _ _ _ _ [some (.ref X.length), some (.int x), some (.int v), none] [] _ _
  refine wp_aload_n d_Mo_man_0 rfl rfl rfl ?_
  refine wp_iload_n d_Mo_man_1 rfl rfl ?_
  refine wp_iconst (v := 0) d_Mo_man_2 rfl ?_
  refine wp_bipush (v := 6) d_Mo_man_3 (by decide) ?_
  refine wp_callV (r := (R_12, T_12, 70)) (M' := m_Mo_in) (as := [_, _, _]) (D' := D - 1) (C1 := 0) (C2 := 0) (S1 := 0) (S2 := 0) d_Mo_man_5 rfl w_1209 w_1211 w_15 hm_0 k_Mo_in (Nat.le_of_ble_eq_true rfl) rfl (Nat.le_of_ble_eq_true rfl) (by omega) rfl rfl ?_
  refine c_Mo_in (by omega)  (fun c_5 => ?_) (fun c_5 => ?_)
  · skip
    refine wp_if_ne (t := 13) d_Mo_man_8 (by decide) (fun c_8 => ?_) (fun c_8 => (absurd c_8 (by decide)))
    refine wp_aload_n d_Mo_man_13 rfl rfl rfl ?_
    refine wp_iload_n d_Mo_man_14 rfl rfl ?_
    refine wp_iconst (v := 0) d_Mo_man_15 rfl ?_
    refine wp_bipush (v := 9) d_Mo_man_16 (by decide) ?_
    refine wp_callV (r := (R_12, T_12, 70)) (M' := m_Mo_in) (as := [_, _, _]) (D' := D - 1) (C1 := 0) (C2 := 0) (S1 := 0) (S2 := 0) d_Mo_man_18 rfl w_1209 w_1211 w_15 hm_0 k_Mo_in (Nat.le_of_ble_eq_true rfl) rfl (Nat.le_of_ble_eq_true rfl) (by omega) rfl rfl ?_
    refine c_Mo_in (by omega)  (fun c_18 => ?_) (fun c_18 => ?_)
    · skip
      refine wp_if_ne (t := 27) d_Mo_man_21 (by decide) (fun c_21 => ?_) (fun c_21 => (absurd c_21 (by decide)))
      refine wp_aload_n d_Mo_man_27 rfl rfl rfl ?_
      refine gM_0 rfl d_Mo_man_28 ?_
      refine wp_bipush (v := 6) d_Mo_man_31 (by decide) ?_
      refine wp_icmp_ne (t := 39) d_Mo_man_33 (by decide) (fun c_33 => ?_) (fun c_33 => ?_)
      · skip
        refine wp_aload_n d_Mo_man_39 rfl rfl rfl ?_
        refine gM_5 rfl d_Mo_man_40 ?_
        refine wp_aload_n d_Mo_man_43 rfl rfl rfl ?_
        refine gM_0 rfl d_Mo_man_44 ?_
        refine wp_iload_n d_Mo_man_47 rfl rfl ?_
        refine sM_5 d_Mo_man_48 (hin c_33) ?_
        refine wp_aload_n d_Mo_man_49 rfl rfl rfl ?_
        refine gM_6 rfl d_Mo_man_50 ?_
        refine wp_aload_n d_Mo_man_53 rfl rfl rfl ?_
        refine gM_0 rfl d_Mo_man_54 ?_
        refine wp_iload_n d_Mo_man_57 rfl rfl ?_
        refine sM_6 d_Mo_man_58 (hin c_33) ?_
        refine wp_aload_n d_Mo_man_59 rfl rfl rfl ?_
        refine gM_7 rfl d_Mo_man_60 ?_
        refine wp_aload_n d_Mo_man_63 rfl rfl rfl ?_
        refine gM_0 rfl d_Mo_man_64 ?_
        refine wp_iconst (v := 0) d_Mo_man_67 rfl ?_
        refine sM_7 d_Mo_man_68 (hin c_33) ?_
        refine wp_aload_n d_Mo_man_69 rfl rfl rfl ?_
        refine gM_8 rfl d_Mo_man_70 ?_
        refine wp_aload_n d_Mo_man_73 rfl rfl rfl ?_
        refine gM_0 rfl d_Mo_man_74 ?_
        refine wp_iconst (v := 0) d_Mo_man_77 rfl ?_
        refine sM_8 d_Mo_man_78 (hin c_33) ?_
        refine wp_aload_n d_Mo_man_79 rfl rfl rfl ?_
        refine gM_10 rfl d_Mo_man_80 ?_
        refine wp_aload_n d_Mo_man_83 rfl rfl rfl ?_
        refine gM_0 rfl d_Mo_man_84 ?_
        refine wp_aload_n d_Mo_man_87 rfl rfl rfl ?_
        refine gM_0 rfl d_Mo_man_88 ?_
        refine sM_10 d_Mo_man_91 (hin c_33) ?_
        refine wp_iconst (v := 0) d_Mo_man_92 rfl ?_
        refine wp_istore_n (ls' := [_, _, _, _]) d_Mo_man_93 rfl (by decide) rfl ?_
        obtain ⟨m, hm, hI⟩ := hI c_33
        rw [hI, nI_clamp (by omega)]
        rw [show ∀ B : Nat → Nat → Int32, HM X I B L E = HM X I (va_up B 9 (B 9)) L E from fun B => by rw [va_us]]
        exact l_Mo_man_94 hm hI (kk c_5 c_18 c_33 m hm hI) 4 0 (by omega)
      · skip
        refine wp_bipush (v := (-4)) d_Mo_man_36 (by decide) ?_
        refine wp_ireturn d_Mo_man_38 rfl rfl ?_
        exact kf c_5 c_18 c_33
    · skip
      refine wp_if_ne (t := 27) d_Mo_man_21 (by decide) (fun c_21 => (absurd c_21 (by decide))) (fun c_21 => ?_)
      refine wp_bipush (v := (-2)) d_Mo_man_24 (by decide) ?_
      refine wp_ireturn d_Mo_man_26 rfl rfl ?_
      exact kb c_5 c_18
  · skip
    refine wp_if_ne (t := 13) d_Mo_man_8 (by decide) (fun c_8 => (absurd c_8 (by decide))) (fun c_8 => ?_)
    refine wp_iconst (v := (-1)) d_Mo_man_11 rfl ?_
    refine wp_ireturn d_Mo_man_12 rfl rfl ?_
    exact kn c_5
end MO6
